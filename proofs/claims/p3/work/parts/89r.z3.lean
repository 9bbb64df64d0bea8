
abbrev r_s_isPartA : Room := { frames := 1, cells := 0, slots := 0, locals := 21 }
abbrev q_s_isPartA (D : va_G) (ks : KS) (ad : Nat → Nat) (kk : Nat → ClassId) (V : Vf) (L : Lf) (bq : Nat) (gn : Nat) (gT : Tk) (gs : St) (gl : List Int64) (A : Nat → Prop) : Array Value → State → Outcome → State → Prop := va_Qi (fun (r : Int32) (_ : Unit) => (0 ≤ r.toInt ∧ r.toInt ≤ 1) ∧ ((r.toInt = 1 ∧ bgP gT gs) ∨ (r.toInt = 0 ∧ ¬ bgP gT gs))) (fun _ t => gq D A (mw ad kk ks.1 V L) (mty kk) t) A
set_option maxHeartbeats 4000000 in
set_option maxRecDepth 100000 in
theorem s_isPartA (l : Launch) (D : va_G) (ks : KS) (sz : Nat) (ad : Nat → Nat) (kk : Nat → ClassId) (V : Vf) (L : Lf) (bq : Nat) (gn : Nat) (gT : Tk) (gs : St) (gl : List Int64) (hMV : rgd bM V) (rel : RelM V L bq gn gT gs gl) (em : EM V gs)  : Met l yX12_isPart (Cond.code yX12_isPart cX12_isPart 1 (some .boolean) :: GW) r_s_isPartA (va_Pc [.ref (ad 0)] (gp D ks (mw ad kk ks.1 V L) (mty kk) sz)) (q_s_isPartA D ks ad kk V L  bq gn gT gs gl (va_A (mw ad kk ks.1 V L) sz)) 0 0 (va_A (mw ad kk ks.1 V L) sz) := by
  refine g_met (q_s_isPartA D ks ad kk V L  bq gn gT gs gl) (by decide) (Nat.le_of_ble_eq_true rfl) ?_
  intro p e s m below meth c A ls H locs hx hb hr hml hown hg hlocks hin hnw hgk hP hK hD hS hA hl
  have hown : s.vm.findClass RX12 = some m.cls := hown
  have hl : lv_has ls 1 [(0, .ref (ad 0))] := hl
  have hP : va_P D vwCl (mw ad kk ks.1 V L) H := hP
  have hD : va_D A (mw ad kk ks.1 V L) := hD
  have hK : va_K D vwCl (mty kk) s := hK
  have rg0 := RelM.rg rel
  have cl0 := RelM.cl rel
  have cq0 := RelM.cq rel
  refine lv_aload_n hx hb dX12_isPart_0 rfl (lv_at hl 0 rfl) ?_
  refine va_get (D := D) (ci := 12) (v := .int (V 0 8)) (C := RX12) (T := TX12) (N := 100) hx hb hg inX12 hown hK hP 0 rfl rfl 8 (by decide) (hg _ w1714) (fun _ h9 => h9) rfl dX12_isPart_1 ?_
  have r1 : 0 ≤ ((V 0 8)).toInt ∧ ((V 0 8)).toInt ≤ 70000 := hMV 0 8
  refine lv_if_ne (tgt := 109) hx hb dX12_isPart_4 (by decide) (fun c2 => ?_) (fun c2 => ?_)
  · skip
    have f3 : ((V 0 8)).toInt ≠ 0 := b_neq rfl (by decide) c2
    exfalso; omega
  · skip
    have f4 : ((V 0 8)).toInt = 0 := b_eq rfl (by decide) c2
    refine lv_aload_n hx hb dX12_isPart_7 rfl (lv_at hl 0 rfl) ?_
    refine va_get (D := D) (ci := 12) (v := .ref (ad 4)) (C := RX12) (T := TX12) (N := 100) hx hb hg inX12 hown hK hP 0 rfl rfl 4 (by decide) (hg _ w1710) (fun _ h9 => h9) rfl dX12_isPart_8 ?_
    refine lv_aload_n hx hb dX12_isPart_11 rfl (lv_at hl 0 rfl) ?_
    refine va_get (D := D) (ci := 12) (v := .int (V 0 7)) (C := RX12) (T := TX12) (N := 100) hx hb hg inX12 hown hK hP 0 rfl rfl 7 (by decide) (hg _ w1713) (fun _ h9 => h9) rfl dX12_isPart_12 ?_
    refine va_iald (D := D) (i := (V 0 7)) hx hb hK hP 2 1 rfl rfl (i_in (a := ((V 0 7)).toInt) rfl (by omega)) dX12_isPart_15 ?_
    refine lv_iconst (v := 2) hx hb dX12_isPart_16 (by decide) ?_
    refine lv_icmp_eq (tgt := 105) hx hb dX12_isPart_17 (by decide) (fun c5 => ?_) (fun c5 => ?_)
    · skip
      have f6 : ((V 4 (Int32.toNatClampNeg (V 0 7)))).toInt = 2 := b_eq rfl (by decide) c5
      refine lv_iconst (v := 1) hx hb dX12_isPart_105 (by decide) ?_
      refine lv_goto (tgt := 110) hx hb dX12_isPart_106 (by decide) ?_
      exact W.zret (v := 1) hx hb hr rfl (fun t ht hW => ⟨⟨1, (), rfl, ⟨(by decide), (Or.inl ⟨rfl, Or.inl ((RelM.nb rel).mp (by rw [← cl0]; omega))⟩)⟩, by rw [ht]; exact hP, va_K.moved hW.alike hK, hD⟩, hS.F ht⟩) hS.2.2 dX12_isPart_110
    · skip
      have f7 : ((V 4 (Int32.toNatClampNeg (V 0 7)))).toInt ≠ 2 := b_neq rfl (by decide) c5
      have kd8 : gT.1 (gs.1 0) ≠ 2 := fun h9 => by have z := (RelM.nb rel).mpr h9; rw [← cl0] at z; omega
      refine lv_aload_n hx hb dX12_isPart_20 rfl (lv_at hl 0 rfl) ?_
      refine lv_bipush (v := 40) hx hb dX12_isPart_21 (by decide) ?_
      have r9 : Int32.toInt 40 = 40 := by decide
      refine gA_int (gA_runV (As := [.int 40]) (rest := []) (ci := 12) (q0 := 0) hx hb hml hown hg hP hD hK hS hA hnw hgk (s_isSignA l D ks H.size ad kk V L 40 (bq) (gn) (gT) (gs) (gl) hMV rel (sg_yes (j := 40) (by decide) (by decide) (by decide))) w2071 w2073 w95 w172 w2074 rfl rfl hdV_yX12_isSign ⟨Nat.le_of_ble_eq_true rfl, Nat.le_of_ble_eq_true rfl⟩ rfl hl.1 rfl (Nat.le_of_ble_eq_true rfl) dX12_isPart_23 ⟨Nat.le_of_ble_eq_true rfl, Nat.le_of_ble_eq_true rfl⟩) hP hD hK hS hA (fun z10 u11 H locs w12 hP hD hK hS => ?_)
      obtain ⟨rgz10, t13⟩ := w12
      have rgz10 : 0 ≤ z10.toInt ∧ z10.toInt ≤ 1 := rgz10
      have t13 : (z10.toInt = 1 ∧ (gT).1 ((gs).1 0) = (Int32.toInt 40)) ∨ (z10.toInt = 0 ∧ (gT).1 ((gs).1 0) ≠ (Int32.toInt 40)) := t13
      rcases t13 with ⟨q14, h15⟩ | ⟨q14, h15⟩
      · skip
        have kd16 : gT.1 (gs.1 0) = 40 := h15.trans (by decide)
        refine lv_if_ne (tgt := 105) hx hb dX12_isPart_26 (by decide) (fun c17 => ?_) (fun c17 => ?_)
        · skip
          have f18 : z10.toInt ≠ 0 := b_neq rfl (by decide) c17
          refine lv_iconst (v := 1) hx hb dX12_isPart_105 (by decide) ?_
          refine lv_goto (tgt := 110) hx hb dX12_isPart_106 (by decide) ?_
          exact W.zret (v := 1) hx hb hr rfl (fun t ht hW => ⟨⟨1, (), rfl, ⟨(by decide), (Or.inl ⟨rfl, Or.inr (Or.inr (Or.inl kd16))⟩)⟩, by rw [ht]; exact hP, va_K.moved hW.alike hK, hD⟩, hS.F ht⟩) hS.2.2 dX12_isPart_110
        · skip
          have f19 : z10.toInt = 0 := b_eq rfl (by decide) c17
          exfalso; omega
      · skip
        have kd20 : gT.1 (gs.1 0) ≠ 40 := fun h9 => h15 (h9.trans (by decide))
        refine lv_if_ne (tgt := 105) hx hb dX12_isPart_26 (by decide) (fun c21 => ?_) (fun c21 => ?_)
        · skip
          have f22 : z10.toInt ≠ 0 := b_neq rfl (by decide) c21
          exfalso; omega
        · skip
          have f23 : z10.toInt = 0 := b_eq rfl (by decide) c21
          refine lv_aload_n hx hb dX12_isPart_29 rfl (lv_at hl 0 rfl) ?_
          refine lv_bipush (v := 45) hx hb dX12_isPart_30 (by decide) ?_
          have r24 : Int32.toInt 45 = 45 := by decide
          refine gA_int (gA_runV (As := [.int 45]) (rest := []) (ci := 12) (q0 := 0) hx hb hml hown hg hP hD hK hS hA hnw hgk (s_isSignA l D ks H.size ad kk V L 45 (bq) (gn) (gT) (gs) (gl) hMV rel (sg_yes (j := 45) (by decide) (by decide) (by decide))) w2071 w2073 w95 w172 w2074 rfl rfl hdV_yX12_isSign ⟨Nat.le_of_ble_eq_true rfl, Nat.le_of_ble_eq_true rfl⟩ rfl hl.1 rfl (Nat.le_of_ble_eq_true rfl) dX12_isPart_32 ⟨Nat.le_of_ble_eq_true rfl, Nat.le_of_ble_eq_true rfl⟩) hP hD hK hS hA (fun z25 u26 H locs w27 hP hD hK hS => ?_)
          obtain ⟨rgz25, t28⟩ := w27
          have rgz25 : 0 ≤ z25.toInt ∧ z25.toInt ≤ 1 := rgz25
          have t28 : (z25.toInt = 1 ∧ (gT).1 ((gs).1 0) = (Int32.toInt 45)) ∨ (z25.toInt = 0 ∧ (gT).1 ((gs).1 0) ≠ (Int32.toInt 45)) := t28
          rcases t28 with ⟨q29, h30⟩ | ⟨q29, h30⟩
          · skip
            have kd31 : gT.1 (gs.1 0) = 45 := h30.trans (by decide)
            refine lv_if_ne (tgt := 105) hx hb dX12_isPart_35 (by decide) (fun c32 => ?_) (fun c32 => ?_)
            · skip
              have f33 : z25.toInt ≠ 0 := b_neq rfl (by decide) c32
              refine lv_iconst (v := 1) hx hb dX12_isPart_105 (by decide) ?_
              refine lv_goto (tgt := 110) hx hb dX12_isPart_106 (by decide) ?_
              exact W.zret (v := 1) hx hb hr rfl (fun t ht hW => ⟨⟨1, (), rfl, ⟨(by decide), (Or.inl ⟨rfl, Or.inr (Or.inr (Or.inr (Or.inl kd31)))⟩)⟩, by rw [ht]; exact hP, va_K.moved hW.alike hK, hD⟩, hS.F ht⟩) hS.2.2 dX12_isPart_110
            · skip
              have f34 : z25.toInt = 0 := b_eq rfl (by decide) c32
              exfalso; omega
          · skip
            have kd35 : gT.1 (gs.1 0) ≠ 45 := fun h9 => h30 (h9.trans (by decide))
            refine lv_if_ne (tgt := 105) hx hb dX12_isPart_35 (by decide) (fun c36 => ?_) (fun c36 => ?_)
            · skip
              have f37 : z25.toInt ≠ 0 := b_neq rfl (by decide) c36
              exfalso; omega
            · skip
              have f38 : z25.toInt = 0 := b_eq rfl (by decide) c36
              refine lv_aload_n hx hb dX12_isPart_38 rfl (lv_at hl 0 rfl) ?_
              refine lv_bipush (v := 15) hx hb dX12_isPart_39 (by decide) ?_
              have r39 : Int32.toInt 15 = 15 := by decide
              refine gA_int (gA_runV (As := [.int 15]) (rest := []) (ci := 12) (q0 := 0) hx hb hml hown hg hP hD hK hS hA hnw hgk (s_isWordA l D ks H.size ad kk V L 15 (bq) (gn) (gT) (gs) (gl) hMV (by decide) rel) w2023 w2025 w83 w172 w2026 rfl rfl hdV_yX12_isWord ⟨Nat.le_of_ble_eq_true rfl, Nat.le_of_ble_eq_true rfl⟩ rfl hl.1 rfl (Nat.le_of_ble_eq_true rfl) dX12_isPart_41 ⟨Nat.le_of_ble_eq_true rfl, Nat.le_of_ble_eq_true rfl⟩) hP hD hK hS hA (fun z40 u41 H locs w42 hP hD hK hS => ?_)
              obtain ⟨rgz40, t43⟩ := w42
              have rgz40 : 0 ≤ z40.toInt ∧ z40.toInt ≤ 1 := rgz40
              have t43 : (z40.toInt = 1 ∧ (gT).1 ((gs).1 0) = 128 + (Int32.toInt 15)) ∨ (z40.toInt = 0 ∧ (gT).1 ((gs).1 0) ≠ 128 + (Int32.toInt 15)) := t43
              rcases t43 with ⟨q44, h45⟩ | ⟨q44, h45⟩
              · skip
                have kd46 : gT.1 (gs.1 0) = 143 := h45.trans (by decide)
                refine lv_if_ne (tgt := 105) hx hb dX12_isPart_44 (by decide) (fun c47 => ?_) (fun c47 => ?_)
                · skip
                  have f48 : z40.toInt ≠ 0 := b_neq rfl (by decide) c47
                  refine lv_iconst (v := 1) hx hb dX12_isPart_105 (by decide) ?_
                  refine lv_goto (tgt := 110) hx hb dX12_isPart_106 (by decide) ?_
                  exact W.zret (v := 1) hx hb hr rfl (fun t ht hW => ⟨⟨1, (), rfl, ⟨(by decide), (Or.inl ⟨rfl, Or.inr (Or.inl kd46)⟩)⟩, by rw [ht]; exact hP, va_K.moved hW.alike hK, hD⟩, hS.F ht⟩) hS.2.2 dX12_isPart_110
                · skip
                  have f49 : z40.toInt = 0 := b_eq rfl (by decide) c47
                  exfalso; omega
              · skip
                have kd50 : gT.1 (gs.1 0) ≠ 143 := fun h9 => h45 (h9.trans (by decide))
                refine lv_if_ne (tgt := 105) hx hb dX12_isPart_44 (by decide) (fun c51 => ?_) (fun c51 => ?_)
                · skip
                  have f52 : z40.toInt ≠ 0 := b_neq rfl (by decide) c51
                  exfalso; omega
                · skip
                  have f53 : z40.toInt = 0 := b_eq rfl (by decide) c51
                  refine lv_aload_n hx hb dX12_isPart_47 rfl (lv_at hl 0 rfl) ?_
                  refine lv_bipush (v := 16) hx hb dX12_isPart_48 (by decide) ?_
                  have r54 : Int32.toInt 16 = 16 := by decide
                  refine gA_int (gA_runV (As := [.int 16]) (rest := []) (ci := 12) (q0 := 0) hx hb hml hown hg hP hD hK hS hA hnw hgk (s_isWordA l D ks H.size ad kk V L 16 (bq) (gn) (gT) (gs) (gl) hMV (by decide) rel) w2023 w2025 w83 w172 w2026 rfl rfl hdV_yX12_isWord ⟨Nat.le_of_ble_eq_true rfl, Nat.le_of_ble_eq_true rfl⟩ rfl hl.1 rfl (Nat.le_of_ble_eq_true rfl) dX12_isPart_50 ⟨Nat.le_of_ble_eq_true rfl, Nat.le_of_ble_eq_true rfl⟩) hP hD hK hS hA (fun z55 u56 H locs w57 hP hD hK hS => ?_)
                  obtain ⟨rgz55, t58⟩ := w57
                  have rgz55 : 0 ≤ z55.toInt ∧ z55.toInt ≤ 1 := rgz55
                  have t58 : (z55.toInt = 1 ∧ (gT).1 ((gs).1 0) = 128 + (Int32.toInt 16)) ∨ (z55.toInt = 0 ∧ (gT).1 ((gs).1 0) ≠ 128 + (Int32.toInt 16)) := t58
                  rcases t58 with ⟨q59, h60⟩ | ⟨q59, h60⟩
                  · skip
                    have kd61 : gT.1 (gs.1 0) = 144 := h60.trans (by decide)
                    refine lv_if_ne (tgt := 105) hx hb dX12_isPart_53 (by decide) (fun c62 => ?_) (fun c62 => ?_)
                    · skip
                      have f63 : z55.toInt ≠ 0 := b_neq rfl (by decide) c62
                      refine lv_iconst (v := 1) hx hb dX12_isPart_105 (by decide) ?_
                      refine lv_goto (tgt := 110) hx hb dX12_isPart_106 (by decide) ?_
                      exact W.zret (v := 1) hx hb hr rfl (fun t ht hW => ⟨⟨1, (), rfl, ⟨(by decide), (Or.inl ⟨rfl, Or.inr (Or.inr (Or.inr (Or.inr (Or.inl kd61))))⟩)⟩, by rw [ht]; exact hP, va_K.moved hW.alike hK, hD⟩, hS.F ht⟩) hS.2.2 dX12_isPart_110
                    · skip
                      have f64 : z55.toInt = 0 := b_eq rfl (by decide) c62
                      exfalso; omega
                  · skip
                    have kd65 : gT.1 (gs.1 0) ≠ 144 := fun h9 => h60 (h9.trans (by decide))
                    refine lv_if_ne (tgt := 105) hx hb dX12_isPart_53 (by decide) (fun c66 => ?_) (fun c66 => ?_)
                    · skip
                      have f67 : z55.toInt ≠ 0 := b_neq rfl (by decide) c66
                      exfalso; omega
                    · skip
                      have f68 : z55.toInt = 0 := b_eq rfl (by decide) c66
                      refine lv_aload_n hx hb dX12_isPart_56 rfl (lv_at hl 0 rfl) ?_
                      refine lv_iconst (v := 2) hx hb dX12_isPart_57 (by decide) ?_
                      have r69 : Int32.toInt 2 = 2 := by decide
                      refine gA_int (gA_runV (As := [.int 2]) (rest := []) (ci := 12) (q0 := 0) hx hb hml hown hg hP hD hK hS hA hnw hgk (s_isWordA l D ks H.size ad kk V L 2 (bq) (gn) (gT) (gs) (gl) hMV (by decide) rel) w2023 w2025 w83 w172 w2026 rfl rfl hdV_yX12_isWord ⟨Nat.le_of_ble_eq_true rfl, Nat.le_of_ble_eq_true rfl⟩ rfl hl.1 rfl (Nat.le_of_ble_eq_true rfl) dX12_isPart_58 ⟨Nat.le_of_ble_eq_true rfl, Nat.le_of_ble_eq_true rfl⟩) hP hD hK hS hA (fun z70 u71 H locs w72 hP hD hK hS => ?_)
                      obtain ⟨rgz70, t73⟩ := w72
                      have rgz70 : 0 ≤ z70.toInt ∧ z70.toInt ≤ 1 := rgz70
                      have t73 : (z70.toInt = 1 ∧ (gT).1 ((gs).1 0) = 128 + (Int32.toInt 2)) ∨ (z70.toInt = 0 ∧ (gT).1 ((gs).1 0) ≠ 128 + (Int32.toInt 2)) := t73
                      rcases t73 with ⟨q74, h75⟩ | ⟨q74, h75⟩
                      · skip
                        have kd76 : gT.1 (gs.1 0) = 130 := h75.trans (by decide)
                        refine lv_if_ne (tgt := 105) hx hb dX12_isPart_61 (by decide) (fun c77 => ?_) (fun c77 => ?_)
                        · skip
                          have f78 : z70.toInt ≠ 0 := b_neq rfl (by decide) c77
                          refine lv_iconst (v := 1) hx hb dX12_isPart_105 (by decide) ?_
                          refine lv_goto (tgt := 110) hx hb dX12_isPart_106 (by decide) ?_
                          exact W.zret (v := 1) hx hb hr rfl (fun t ht hW => ⟨⟨1, (), rfl, ⟨(by decide), (Or.inl ⟨rfl, Or.inr (Or.inr (Or.inr (Or.inr (Or.inr (Or.inl kd76)))))⟩)⟩, by rw [ht]; exact hP, va_K.moved hW.alike hK, hD⟩, hS.F ht⟩) hS.2.2 dX12_isPart_110
                        · skip
                          have f79 : z70.toInt = 0 := b_eq rfl (by decide) c77
                          exfalso; omega
                      · skip
                        have kd80 : gT.1 (gs.1 0) ≠ 130 := fun h9 => h75 (h9.trans (by decide))
                        refine lv_if_ne (tgt := 105) hx hb dX12_isPart_61 (by decide) (fun c81 => ?_) (fun c81 => ?_)
                        · skip
                          have f82 : z70.toInt ≠ 0 := b_neq rfl (by decide) c81
                          exfalso; omega
                        · skip
                          have f83 : z70.toInt = 0 := b_eq rfl (by decide) c81
                          refine lv_aload_n hx hb dX12_isPart_64 rfl (lv_at hl 0 rfl) ?_
                          refine lv_bipush (v := 17) hx hb dX12_isPart_65 (by decide) ?_
                          have r84 : Int32.toInt 17 = 17 := by decide
                          refine gA_int (gA_runV (As := [.int 17]) (rest := []) (ci := 12) (q0 := 0) hx hb hml hown hg hP hD hK hS hA hnw hgk (s_isWordA l D ks H.size ad kk V L 17 (bq) (gn) (gT) (gs) (gl) hMV (by decide) rel) w2023 w2025 w83 w172 w2026 rfl rfl hdV_yX12_isWord ⟨Nat.le_of_ble_eq_true rfl, Nat.le_of_ble_eq_true rfl⟩ rfl hl.1 rfl (Nat.le_of_ble_eq_true rfl) dX12_isPart_67 ⟨Nat.le_of_ble_eq_true rfl, Nat.le_of_ble_eq_true rfl⟩) hP hD hK hS hA (fun z85 u86 H locs w87 hP hD hK hS => ?_)
                          obtain ⟨rgz85, t88⟩ := w87
                          have rgz85 : 0 ≤ z85.toInt ∧ z85.toInt ≤ 1 := rgz85
                          have t88 : (z85.toInt = 1 ∧ (gT).1 ((gs).1 0) = 128 + (Int32.toInt 17)) ∨ (z85.toInt = 0 ∧ (gT).1 ((gs).1 0) ≠ 128 + (Int32.toInt 17)) := t88
                          rcases t88 with ⟨q89, h90⟩ | ⟨q89, h90⟩
                          · skip
                            have kd91 : gT.1 (gs.1 0) = 145 := h90.trans (by decide)
                            refine lv_if_ne (tgt := 105) hx hb dX12_isPart_70 (by decide) (fun c92 => ?_) (fun c92 => ?_)
                            · skip
                              have f93 : z85.toInt ≠ 0 := b_neq rfl (by decide) c92
                              refine lv_iconst (v := 1) hx hb dX12_isPart_105 (by decide) ?_
                              refine lv_goto (tgt := 110) hx hb dX12_isPart_106 (by decide) ?_
                              exact W.zret (v := 1) hx hb hr rfl (fun t ht hW => ⟨⟨1, (), rfl, ⟨(by decide), (Or.inl ⟨rfl, Or.inr (Or.inr (Or.inr (Or.inr (Or.inr (Or.inr (Or.inl kd91))))))⟩)⟩, by rw [ht]; exact hP, va_K.moved hW.alike hK, hD⟩, hS.F ht⟩) hS.2.2 dX12_isPart_110
                            · skip
                              have f94 : z85.toInt = 0 := b_eq rfl (by decide) c92
                              exfalso; omega
                          · skip
                            have kd95 : gT.1 (gs.1 0) ≠ 145 := fun h9 => h90 (h9.trans (by decide))
                            refine lv_if_ne (tgt := 105) hx hb dX12_isPart_70 (by decide) (fun c96 => ?_) (fun c96 => ?_)
                            · skip
                              have f97 : z85.toInt ≠ 0 := b_neq rfl (by decide) c96
                              exfalso; omega
                            · skip
                              have f98 : z85.toInt = 0 := b_eq rfl (by decide) c96
                              refine lv_aload_n hx hb dX12_isPart_73 rfl (lv_at hl 0 rfl) ?_
                              refine lv_bipush (v := 18) hx hb dX12_isPart_74 (by decide) ?_
                              have r99 : Int32.toInt 18 = 18 := by decide
                              refine gA_int (gA_runV (As := [.int 18]) (rest := []) (ci := 12) (q0 := 0) hx hb hml hown hg hP hD hK hS hA hnw hgk (s_isWordA l D ks H.size ad kk V L 18 (bq) (gn) (gT) (gs) (gl) hMV (by decide) rel) w2023 w2025 w83 w172 w2026 rfl rfl hdV_yX12_isWord ⟨Nat.le_of_ble_eq_true rfl, Nat.le_of_ble_eq_true rfl⟩ rfl hl.1 rfl (Nat.le_of_ble_eq_true rfl) dX12_isPart_76 ⟨Nat.le_of_ble_eq_true rfl, Nat.le_of_ble_eq_true rfl⟩) hP hD hK hS hA (fun z100 u101 H locs w102 hP hD hK hS => ?_)
                              obtain ⟨rgz100, t103⟩ := w102
                              have rgz100 : 0 ≤ z100.toInt ∧ z100.toInt ≤ 1 := rgz100
                              have t103 : (z100.toInt = 1 ∧ (gT).1 ((gs).1 0) = 128 + (Int32.toInt 18)) ∨ (z100.toInt = 0 ∧ (gT).1 ((gs).1 0) ≠ 128 + (Int32.toInt 18)) := t103
                              rcases t103 with ⟨q104, h105⟩ | ⟨q104, h105⟩
                              · skip
                                have kd106 : gT.1 (gs.1 0) = 146 := h105.trans (by decide)
                                refine lv_if_eq (tgt := 89) hx hb dX12_isPart_79 (by decide) (fun c107 => ?_) (fun c107 => ?_)
                                · skip
                                  have f108 : z100.toInt = 0 := b_eq rfl (by decide) c107
                                  exfalso; omega
                                · skip
                                  have f109 : z100.toInt ≠ 0 := b_neq rfl (by decide) c107
                                  refine lv_aload_n hx hb dX12_isPart_82 rfl (lv_at hl 0 rfl) ?_
                                  refine va_get (D := D) (ci := 12) (v := .int (V 0 51)) (C := RX12) (T := TX12) (N := 100) hx hb hg inX12 hown hK hP 0 rfl rfl 51 (by decide) (hg _ w1757) (fun _ h9 => h9) rfl dX12_isPart_83 ?_
                                  have r110 : (-1) ≤ ((V 0 51)).toInt ∧ ((V 0 51)).toInt ≤ 47 := hMV 0 51
                                  refine lv_if_ge (tgt := 105) hx hb dX12_isPart_86 (by decide) (fun c111 => ?_) (fun c111 => ?_)
                                  · skip
                                    have f112 : 0 ≤ ((V 0 51)).toInt := b_le (by decide) rfl c111
                                    refine lv_iconst (v := 1) hx hb dX12_isPart_105 (by decide) ?_
                                    refine lv_goto (tgt := 110) hx hb dX12_isPart_106 (by decide) ?_
                                    exact W.zret (v := 1) hx hb hr rfl (fun t ht hW => ⟨⟨1, (), rfl, ⟨(by decide), (Or.inl ⟨rfl, by have h9 := kd106; have h8 := em.1.mp (by omega); unfold bgP; omega⟩)⟩, by rw [ht]; exact hP, va_K.moved hW.alike hK, hD⟩, hS.F ht⟩) hS.2.2 dX12_isPart_110
                                  · skip
                                    have f113 : ((V 0 51)).toInt < 0 := b_nle (by decide) rfl c111
                                    refine lv_aload_n hx hb dX12_isPart_89 rfl (lv_at hl 0 rfl) ?_
                                    refine lv_bipush (v := 19) hx hb dX12_isPart_90 (by decide) ?_
                                    have r114 : Int32.toInt 19 = 19 := by decide
                                    refine gA_int (gA_runV (As := [.int 19]) (rest := []) (ci := 12) (q0 := 0) hx hb hml hown hg hP hD hK hS hA hnw hgk (s_isWordA l D ks H.size ad kk V L 19 (bq) (gn) (gT) (gs) (gl) hMV (by decide) rel) w2023 w2025 w83 w172 w2026 rfl rfl hdV_yX12_isWord ⟨Nat.le_of_ble_eq_true rfl, Nat.le_of_ble_eq_true rfl⟩ rfl hl.1 rfl (Nat.le_of_ble_eq_true rfl) dX12_isPart_92 ⟨Nat.le_of_ble_eq_true rfl, Nat.le_of_ble_eq_true rfl⟩) hP hD hK hS hA (fun z115 u116 H locs w117 hP hD hK hS => ?_)
                                    obtain ⟨rgz115, t118⟩ := w117
                                    have rgz115 : 0 ≤ z115.toInt ∧ z115.toInt ≤ 1 := rgz115
                                    have t118 : (z115.toInt = 1 ∧ (gT).1 ((gs).1 0) = 128 + (Int32.toInt 19)) ∨ (z115.toInt = 0 ∧ (gT).1 ((gs).1 0) ≠ 128 + (Int32.toInt 19)) := t118
                                    rcases t118 with ⟨q119, h120⟩ | ⟨q119, h120⟩
                                    · skip
                                      have kd121 : gT.1 (gs.1 0) = 147 := h120.trans (by decide)
                                      exact absurd (kd106.symm.trans kd121) (by decide)
                                    · skip
                                      have kd122 : gT.1 (gs.1 0) ≠ 147 := fun h9 => h120 (h9.trans (by decide))
                                      refine lv_if_eq (tgt := 109) hx hb dX12_isPart_95 (by decide) (fun c123 => ?_) (fun c123 => ?_)
                                      · skip
                                        have f124 : z115.toInt = 0 := b_eq rfl (by decide) c123
                                        refine lv_iconst (v := 0) hx hb dX12_isPart_109 (by decide) ?_
                                        exact W.zret (v := 0) hx hb hr rfl (fun t ht hW => ⟨⟨0, (), rfl, ⟨(by decide), (Or.inr ⟨rfl, fun h9 => by have h8 : ¬ gs.1 4 = 0 := fun q => absurd (em.1.mpr q) (by omega); unfold bgP at h9; omega⟩)⟩, by rw [ht]; exact hP, va_K.moved hW.alike hK, hD⟩, hS.F ht⟩) hS.2.2 dX12_isPart_110
                                      · skip
                                        have f125 : z115.toInt ≠ 0 := b_neq rfl (by decide) c123
                                        exfalso; omega
                              · skip
                                have kd126 : gT.1 (gs.1 0) ≠ 146 := fun h9 => h105 (h9.trans (by decide))
                                refine lv_if_eq (tgt := 89) hx hb dX12_isPart_79 (by decide) (fun c127 => ?_) (fun c127 => ?_)
                                · skip
                                  have f128 : z100.toInt = 0 := b_eq rfl (by decide) c127
                                  refine lv_aload_n hx hb dX12_isPart_89 rfl (lv_at hl 0 rfl) ?_
                                  refine lv_bipush (v := 19) hx hb dX12_isPart_90 (by decide) ?_
                                  have r129 : Int32.toInt 19 = 19 := by decide
                                  refine gA_int (gA_runV (As := [.int 19]) (rest := []) (ci := 12) (q0 := 0) hx hb hml hown hg hP hD hK hS hA hnw hgk (s_isWordA l D ks H.size ad kk V L 19 (bq) (gn) (gT) (gs) (gl) hMV (by decide) rel) w2023 w2025 w83 w172 w2026 rfl rfl hdV_yX12_isWord ⟨Nat.le_of_ble_eq_true rfl, Nat.le_of_ble_eq_true rfl⟩ rfl hl.1 rfl (Nat.le_of_ble_eq_true rfl) dX12_isPart_92 ⟨Nat.le_of_ble_eq_true rfl, Nat.le_of_ble_eq_true rfl⟩) hP hD hK hS hA (fun z130 u131 H locs w132 hP hD hK hS => ?_)
                                  obtain ⟨rgz130, t133⟩ := w132
                                  have rgz130 : 0 ≤ z130.toInt ∧ z130.toInt ≤ 1 := rgz130
                                  have t133 : (z130.toInt = 1 ∧ (gT).1 ((gs).1 0) = 128 + (Int32.toInt 19)) ∨ (z130.toInt = 0 ∧ (gT).1 ((gs).1 0) ≠ 128 + (Int32.toInt 19)) := t133
                                  rcases t133 with ⟨q134, h135⟩ | ⟨q134, h135⟩
                                  · skip
                                    have kd136 : gT.1 (gs.1 0) = 147 := h135.trans (by decide)
                                    refine lv_if_eq (tgt := 109) hx hb dX12_isPart_95 (by decide) (fun c137 => ?_) (fun c137 => ?_)
                                    · skip
                                      have f138 : z130.toInt = 0 := b_eq rfl (by decide) c137
                                      exfalso; omega
                                    · skip
                                      have f139 : z130.toInt ≠ 0 := b_neq rfl (by decide) c137
                                      refine lv_aload_n hx hb dX12_isPart_98 rfl (lv_at hl 0 rfl) ?_
                                      refine va_get (D := D) (ci := 12) (v := .int (V 0 52)) (C := RX12) (T := TX12) (N := 100) hx hb hg inX12 hown hK hP 0 rfl rfl 52 (by decide) (hg _ w1758) (fun _ h9 => h9) rfl dX12_isPart_99 ?_
                                      have r140 : 0 ≤ ((V 0 52)).toInt ∧ ((V 0 52)).toInt ≤ 1 := hMV 0 52
                                      refine lv_if_eq (tgt := 109) hx hb dX12_isPart_102 (by decide) (fun c141 => ?_) (fun c141 => ?_)
                                      · skip
                                        have f142 : ((V 0 52)).toInt = 0 := b_eq rfl (by decide) c141
                                        refine lv_iconst (v := 0) hx hb dX12_isPart_109 (by decide) ?_
                                        exact W.zret (v := 0) hx hb hr rfl (fun t ht hW => ⟨⟨0, (), rfl, ⟨(by decide), (Or.inr ⟨rfl, fun h9 => by have h8 : ¬ gs.1 4 = 2 := fun q => absurd (em.2.1.mpr q) (by omega); unfold bgP at h9; omega⟩)⟩, by rw [ht]; exact hP, va_K.moved hW.alike hK, hD⟩, hS.F ht⟩) hS.2.2 dX12_isPart_110
                                      · skip
                                        have f143 : ((V 0 52)).toInt ≠ 0 := b_neq rfl (by decide) c141
                                        refine lv_iconst (v := 1) hx hb dX12_isPart_105 (by decide) ?_
                                        refine lv_goto (tgt := 110) hx hb dX12_isPart_106 (by decide) ?_
                                        exact W.zret (v := 1) hx hb hr rfl (fun t ht hW => ⟨⟨1, (), rfl, ⟨(by decide), (Or.inl ⟨rfl, by have h9 := kd136; have h8 := em.2.1.mp (by omega); unfold bgP; omega⟩)⟩, by rw [ht]; exact hP, va_K.moved hW.alike hK, hD⟩, hS.F ht⟩) hS.2.2 dX12_isPart_110
                                  · skip
                                    have kd144 : gT.1 (gs.1 0) ≠ 147 := fun h9 => h135 (h9.trans (by decide))
                                    refine lv_if_eq (tgt := 109) hx hb dX12_isPart_95 (by decide) (fun c145 => ?_) (fun c145 => ?_)
                                    · skip
                                      have f146 : z130.toInt = 0 := b_eq rfl (by decide) c145
                                      refine lv_iconst (v := 0) hx hb dX12_isPart_109 (by decide) ?_
                                      exact W.zret (v := 0) hx hb hr rfl (fun t ht hW => ⟨⟨0, (), rfl, ⟨(by decide), (Or.inr ⟨rfl, fun h9 => by unfold bgP at h9; omega⟩)⟩, by rw [ht]; exact hP, va_K.moved hW.alike hK, hD⟩, hS.F ht⟩) hS.2.2 dX12_isPart_110
                                    · skip
                                      have f147 : z130.toInt ≠ 0 := b_neq rfl (by decide) c145
                                      exfalso; omega
                                · skip
                                  have f148 : z100.toInt ≠ 0 := b_neq rfl (by decide) c127
                                  exfalso; omega
abbrev r_s_partB : Room := { frames := 0, cells := 0, slots := 0, locals := 0 }
abbrev q_s_partB (D : va_G) (ks : KS) (ad : Nat → Nat) (kk : Nat → ClassId) (V : Vf) (L : Lf) (A : Nat → Prop) : Array Value → State → Outcome → State → Prop := va_Qv (fun (u : Vf × Lf) => rgd bM u.1 ∧ agr [(0, 7), (0, 8), (0, 48), (0, 50)] [35, 36, 37, 38, 45, 46, 47] V u.1 ∧ agL [35, 36, 37, 38, 45, 46, 47] L u.2 ∧ ((u.1 0 48).toInt = (V 0 48).toInt) ∧ ((u.1 0 50).toInt = (V 0 50).toInt) ∧ ((u.1 0 8).toInt = (V 0 8).toInt)) (fun u t => gq D A (mw ad kk ks.1 u.1 u.2) (mty kk) t) A
set_option maxHeartbeats 4000000 in
set_option maxRecDepth 100000 in
theorem s_partB (l : Launch) (D : va_G) (ks : KS) (sz : Nat) (ad : Nat → Nat) (kk : Nat → ClassId) (V : Vf) (L : Lf)  (hMV : rgd bM V) (bf : 1 ≤ (V 0 8).toInt) (bd : (V 0 50).toInt ≤ 8)  : Met l yX12_part (Cond.code yX12_part cX12_part 2 none :: GW) r_s_partB (va_Pc [.ref (ad 0)] (gp D ks (mw ad kk ks.1 V L) (mty kk) sz)) (q_s_partB D ks ad kk V L  (va_A (mw ad kk ks.1 V L) sz)) 0 0 (va_A (mw ad kk ks.1 V L) sz) := by
  refine g_met (q_s_partB D ks ad kk V L) (by decide) (Nat.le_of_ble_eq_true rfl) ?_
  intro p e s m below meth c A ls H locs hx hb hr hml hown hg hlocks hin hnw hgk hP hK hD hS hA hl
  have hown : s.vm.findClass RX12 = some m.cls := hown
  have hl : lv_has ls 2 [(0, .ref (ad 0))] := hl
  have hP : va_P D vwCl (mw ad kk ks.1 V L) H := hP
  have hD : va_D A (mw ad kk ks.1 V L) := hD
  have hK : va_K D vwCl (mty kk) s := hK
  have agV : agr [(0, 7), (0, 8), (0, 48), (0, 50)] [35, 36, 37, 38, 45, 46, 47] V V := agr.rf
  have alL : agL [35, 36, 37, 38, 45, 46, 47] L L := agL.rf
  have r1 : 0 ≤ ((V 0 8)).toInt ∧ ((V 0 8)).toInt ≤ 70000 := hMV 0 8
  have r2 : 0 ≤ ((V 0 50)).toInt ∧ ((V 0 50)).toInt ≤ 9 := hMV 0 50
  refine lv_aload_n hx hb dX12_part_0 rfl (lv_at hl 0 rfl) ?_
  refine va_get (D := D) (ci := 12) (v := .int (V 0 8)) (C := RX12) (T := TX12) (N := 100) hx hb hg inX12 hown hK hP 0 rfl rfl 8 (by decide) (hg _ w1714) (fun _ h9 => h9) rfl dX12_part_1 ?_
  refine lv_if_ne (tgt := 22) hx hb dX12_part_4 (by decide) (fun c3 => ?_) (fun c3 => ?_)
  · skip
    have f4 : ((V 0 8)).toInt ≠ 0 := b_neq rfl (by decide) c3
    refine lv_aload_n hx hb dX12_part_22 rfl (lv_at hl 0 rfl) ?_
    refine va_get (D := D) (ci := 12) (v := .int (V 0 8)) (C := RX12) (T := TX12) (N := 100) hx hb hg inX12 hown hK hP 0 rfl rfl 8 (by decide) (hg _ w1714) (fun _ h9 => h9) rfl dX12_part_23 ?_
    refine lv_if_ne (tgt := 43) hx hb dX12_part_26 (by decide) (fun c5 => ?_) (fun c5 => ?_)
    · skip
      have f6 : ((V 0 8)).toInt ≠ 0 := b_neq rfl (by decide) c5
      refine lv_aload_n hx hb dX12_part_43 rfl (lv_at hl 0 rfl) ?_
      refine lv_dup hx hb dX12_part_44 rfl ?_
      refine va_get (D := D) (ci := 12) (v := .int (V 0 50)) (C := RX12) (T := TX12) (N := 100) hx hb hg inX12 hown hK hP 0 rfl rfl 50 (by decide) (hg _ w1756) (fun _ h9 => h9) rfl dX12_part_45 ?_
      refine lv_iconst (v := 1) hx hb dX12_part_48 (by decide) ?_
      refine lv_iadd hx hb dX12_part_49 ?_
      refine lv_topi (fun z7 ez7 => ?_)
      have hz7 : z7.toInt = ((V 0 50)).toInt + 1 := i_add ez7 rfl (by decide) (by omega)
      refine va_put (D := D) (ci := 12) (v := .int z7) (ty := tyX12 50) (C := RX12) (T := TX12) (N := 100) hx hb hg inX12 tyX12 tyX12_ok nmX12 hown hK hP hD hS 0 rfl rfl 50 (by decide) (hg _ w1756) (fun _ h9 => h9) rfl (tyX12_ok 50 (by decide)) rfl rfl (Nat.le_of_ble_eq_true rfl) dX12_part_50 (fun H locs hP hD hS => ?_)
      obtain ⟨V8, hV8⟩ : ∃ z, z = up2 V 0 50 z7 := ⟨_, rfl⟩
      have hP : va_P D vwCl (mw ad kk ks.1 V8 L) H := by rw [hV8]; exact hP
      have hD : va_D A (mw ad kk ks.1 V8 L) := by rw [hV8]; exact hD
      have hMV8 : rgd bM V8 := hMV.put hV8 (show 0 ≤ z7.toInt ∧ z7.toInt ≤ 9 from by omega)
      have agV8 : agr [(0, 7), (0, 8), (0, 48), (0, 50)] [35, 36, 37, 38, 45, 46, 47] V V8 := agV.up hV8 rfl
      refine lv_aload_n hx hb dX12_part_53 rfl (lv_at hl 0 rfl) ?_
      refine va_get (D := D) (ci := 12) (v := .int (V8 0 8)) (C := RX12) (T := TX12) (N := 100) hx hb hg inX12 hown hK hP 0 rfl rfl 8 (by decide) (hg _ w1714) (fun _ h9 => h9) rfl dX12_part_54 ?_
      refine g_top (v := (V 0 8)) (up2_k hV8 (by decide)) ?_
      refine lv_if_ne (tgt := 72) hx hb dX12_part_57 (by decide) (fun c9 => ?_) (fun c9 => ?_)
      · skip
        have f10 : ((V 0 8)).toInt ≠ 0 := b_neq rfl (by decide) c9
        refine lv_aload_n hx hb dX12_part_72 rfl (lv_at hl 0 rfl) ?_
        refine lv_dup hx hb dX12_part_73 rfl ?_
        refine va_get (D := D) (ci := 12) (v := .int (V8 0 50)) (C := RX12) (T := TX12) (N := 100) hx hb hg inX12 hown hK hP 0 rfl rfl 50 (by decide) (hg _ w1756) (fun _ h9 => h9) rfl dX12_part_74 ?_
        refine g_top (v := z7) (up2_s hV8) ?_
        refine lv_iconst (v := 1) hx hb dX12_part_77 (by decide) ?_
        refine lv_isub hx hb dX12_part_78 ?_
        refine lv_topi (fun z11 ez11 => ?_)
        have hz11 : z11.toInt = z7.toInt - 1 := i_sub ez11 rfl (by decide) (by omega)
        refine va_put (D := D) (ci := 12) (v := .int z11) (ty := tyX12 50) (C := RX12) (T := TX12) (N := 100) hx hb hg inX12 tyX12 tyX12_ok nmX12 hown hK hP hD hS 0 rfl rfl 50 (by decide) (hg _ w1756) (fun _ h9 => h9) rfl (tyX12_ok 50 (by decide)) rfl rfl (Nat.le_of_ble_eq_true rfl) dX12_part_79 (fun H locs hP hD hS => ?_)
        obtain ⟨V12, hV12⟩ : ∃ z, z = up2 V8 0 50 z11 := ⟨_, rfl⟩
        have hP : va_P D vwCl (mw ad kk ks.1 V12 L) H := by rw [hV12]; exact hP
        have hD : va_D A (mw ad kk ks.1 V12 L) := by rw [hV12]; exact hD
        have hMV12 : rgd bM V12 := hMV8.put hV12 (show 0 ≤ z11.toInt ∧ z11.toInt ≤ 9 from by omega)
        have agV12 : agr [(0, 7), (0, 8), (0, 48), (0, 50)] [35, 36, 37, 38, 45, 46, 47] V V12 := agV8.up hV12 rfl
        have pq13 : (V12 0 48).toInt = ((V 0 48)).toInt := congrArg Int32.toInt ((up2_k hV12 (by decide)).trans (up2_k hV8 (by decide)))
        have r14 : 0 ≤ ((V 0 48)).toInt ∧ ((V 0 48)).toInt ≤ 10000 := hMV 0 48
        have pq15 : (V12 0 50).toInt = z11.toInt := congrArg Int32.toInt (up2_s hV12)
        have pq16 : (V12 0 8).toInt = ((V 0 8)).toInt := congrArg Int32.toInt ((up2_k hV12 (by decide)).trans (up2_k hV8 (by decide)))
        exact W.vret hx hb hr (fun t ht hW => ⟨⟨(V12, L), rfl, ⟨hMV12, agV12, alL, (show (V12 0 48).toInt = (V 0 48).toInt from by omega), (show (V12 0 50).toInt = (V 0 50).toInt from by omega), (show (V12 0 8).toInt = (V 0 8).toInt from by omega)⟩, by rw [ht]; exact hP, va_K.moved hW.alike hK, hD⟩, hS.F ht⟩) hS.2.2 dX12_part_82
      · skip
        have f17 : ((V 0 8)).toInt = 0 := b_eq rfl (by decide) c9
        exfalso; omega
    · skip
      have f18 : ((V 0 8)).toInt = 0 := b_eq rfl (by decide) c5
      exfalso; omega
  · skip
    have f19 : ((V 0 8)).toInt = 0 := b_eq rfl (by decide) c3
    exfalso; omega
abbrev r_s_productB : Room := { frames := 2, cells := 0, slots := 0, locals := 43 }
abbrev q_s_productB (D : va_G) (ks : KS) (ad : Nat → Nat) (kk : Nat → ClassId) (V : Vf) (L : Lf) (A : Nat → Prop) : Array Value → State → Outcome → State → Prop := va_Qv (fun (u : Vf × Lf) => rgd bM u.1 ∧ agr [(0, 7), (0, 8), (0, 48), (0, 50)] [35, 36, 37, 38, 45, 46, 47] V u.1 ∧ agL [35, 36, 37, 38, 45, 46, 47] L u.2 ∧ ((u.1 0 48).toInt = (V 0 48).toInt) ∧ ((u.1 0 50).toInt = (V 0 50).toInt) ∧ ((u.1 0 8).toInt = (V 0 8).toInt)) (fun u t => gq D A (mw ad kk ks.1 u.1 u.2) (mty kk) t) A
set_option maxHeartbeats 4000000 in
set_option maxRecDepth 100000 in
theorem s_productB (l : Launch) (D : va_G) (ks : KS) (sz : Nat) (ad : Nat → Nat) (kk : Nat → ClassId) (V : Vf) (L : Lf)  (hMV : rgd bM V) (bf : 1 ≤ (V 0 8).toInt) (bd : (V 0 50).toInt ≤ 8)  : Met l yX12_product (Cond.code yX12_product cX12_product 2 none :: GW) r_s_productB (va_Pc [.ref (ad 0)] (gp D ks (mw ad kk ks.1 V L) (mty kk) sz)) (q_s_productB D ks ad kk V L  (va_A (mw ad kk ks.1 V L) sz)) 0 0 (va_A (mw ad kk ks.1 V L) sz) := by
  refine g_met (q_s_productB D ks ad kk V L) (by decide) (Nat.le_of_ble_eq_true rfl) ?_
  intro p e s m below meth c A ls H locs hx hb hr hml hown hg hlocks hin hnw hgk hP hK hD hS hA hl
  have hown : s.vm.findClass RX12 = some m.cls := hown
  have hl : lv_has ls 2 [(0, .ref (ad 0))] := hl
  have hP : va_P D vwCl (mw ad kk ks.1 V L) H := hP
  have hD : va_D A (mw ad kk ks.1 V L) := hD
  have hK : va_K D vwCl (mty kk) s := hK
  have agV : agr [(0, 7), (0, 8), (0, 48), (0, 50)] [35, 36, 37, 38, 45, 46, 47] V V := agr.rf
  have alL : agL [35, 36, 37, 38, 45, 46, 47] L L := agL.rf
  have r1 : 0 ≤ ((V 0 8)).toInt ∧ ((V 0 8)).toInt ≤ 70000 := hMV 0 8
  have r2 : 0 ≤ ((V 0 50)).toInt ∧ ((V 0 50)).toInt ≤ 9 := hMV 0 50
  refine lv_aload_n hx hb dX12_product_0 rfl (lv_at hl 0 rfl) ?_
  refine gA_void (gA_runV (As := []) (rest := []) (ci := 12) (q0 := 0) hx hb hml hown hg hP hD hK hS hA hnw hgk (s_partB l D ks H.size ad kk V L  hMV (show 1 ≤ (V 0 8).toInt from by omega) (show (V 0 50).toInt ≤ 8 from by omega)) w2128 w2130 w109 w172 w2131 rfl rfl hdV_yX12_part ⟨Nat.le_of_ble_eq_true rfl, Nat.le_of_ble_eq_true rfl⟩ rfl hl.1 rfl (Nat.le_of_ble_eq_true rfl) dX12_product_1 ⟨Nat.le_of_ble_eq_true rfl, Nat.le_of_ble_eq_true rfl⟩) hP hD hK hS hA (fun u4 H locs w5 hP hD hK hS => ?_)
  obtain ⟨V9, L10⟩ := u4
  obtain ⟨hMV9, ajV9, axL10, t6, t7, t8⟩ := w5
  have alL10 : agL [35, 36, 37, 38, 45, 46, 47] L L10 := agL.tr alL axL10 (by decide)
  have hP : va_P D vwCl (mw ad kk ks.1 V9 L10) H := hP
  have hD : va_D A (mw ad kk ks.1 V9 L10) := hD
  have hMV9 : rgd bM V9 := hMV9
  have ajV9 : agr [(0, 7), (0, 8), (0, 48), (0, 50)] [35, 36, 37, 38, 45, 46, 47] V V9 := ajV9
  have agV9 : agr [(0, 7), (0, 8), (0, 48), (0, 50)] [35, 36, 37, 38, 45, 46, 47] V V9 := agV.tr ajV9 (by decide) (by decide)
  have t6 : (V9 0 48).toInt = (V 0 48).toInt := t6
  have t7 : (V9 0 50).toInt = (V 0 50).toInt := t7
  have t8 : (V9 0 8).toInt = (V 0 8).toInt := t8
  have r11 : 0 ≤ ((V 0 48)).toInt ∧ ((V 0 48)).toInt ≤ 10000 := hMV 0 48
  have r12 : 0 ≤ ((V9 0 48)).toInt ∧ ((V9 0 48)).toInt ≤ 10000 := hMV9 0 48
  have r13 : 0 ≤ ((V9 0 50)).toInt ∧ ((V9 0 50)).toInt ≤ 9 := hMV9 0 50
  have r14 : 0 ≤ ((V9 0 8)).toInt ∧ ((V9 0 8)).toInt ≤ 70000 := hMV9 0 8
  have lp18 : ∀ (fulp18 : Nat) (g17 : Int) (V15 : Vf) (L16 : Lf) (H : Heap) (locs : List Loc) (ls : Array Slot), 0 ≤ g17 → (V15 0 8).toInt = (V 0 8).toInt → (V15 0 48).toInt = (V 0 48).toInt → (V15 0 50).toInt = (V 0 50).toInt → g17 < (fulp18 : Int) → agL [35, 36, 37, 38, 45, 46, 47] L L16 → agr [(0, 7), (0, 8), (0, 48), (0, 50)] [35, 36, 37, 38, 45, 46, 47] V9 V15 → rgd bM V15 → va_P D vwCl (mw ad kk ks.1 V15 L16) H → va_D A (mw ad kk ks.1 V15 L16) → va_S A s.heap H locs → lv_has ls 2 [(0, .ref (ad 0))] → W p l e r_s_productB s m ([.ref (ad 0)] : List Value).toArray below meth c H locs 0 0 (MQ below (q_s_productB D ks ad kk V L  A) ([.ref (ad 0)] : List Value).toArray s 0 0 A) (F0 m 4 ls []) := by
    intro fulp18
    induction fulp18 with
    | zero =>
      intro g17 V15 L16 H locs ls xlp18_0 xlp18_1 xlp18_2 xlp18_3 hn alL16 ajV15 hMV15 hP hD hS hl
      exfalso; omega
    | succ fulp18 ihlp18 =>
      intro g17 V15 L16 H locs ls xlp18_0 xlp18_1 xlp18_2 xlp18_3 hn alL16 ajV15 hMV15 hP hD hS hl
      have agV15 : agr [(0, 7), (0, 8), (0, 48), (0, 50)] [35, 36, 37, 38, 45, 46, 47] V V15 := agV9.tr ajV15 (by decide) (by decide)
      have r19 : 0 ≤ ((V15 0 8)).toInt ∧ ((V15 0 8)).toInt ≤ 70000 := hMV15 0 8
      have r20 : 0 ≤ ((V15 0 48)).toInt ∧ ((V15 0 48)).toInt ≤ 10000 := hMV15 0 48
      have r21 : 0 ≤ ((V15 0 50)).toInt ∧ ((V15 0 50)).toInt ≤ 9 := hMV15 0 50
      refine lv_aload_n hx hb dX12_product_4 rfl (lv_at hl 0 rfl) ?_
      refine lv_bipush (v := 42) hx hb dX12_product_5 (by decide) ?_
      have r22 : Int32.toInt 42 = 42 := by decide
      refine gA_int (gA_runV (As := [.int 42]) (rest := []) (ci := 12) (q0 := 0) hx hb hml hown hg hP hD hK hS hA hnw hgk (s_hasSignB l D ks H.size ad kk V15 L16 42 hMV15 (show 1 ≤ (V15 0 8).toInt from by omega)) w2067 w2069 w94 w172 w2070 rfl rfl hdV_yX12_hasSign ⟨Nat.le_of_ble_eq_true rfl, Nat.le_of_ble_eq_true rfl⟩ rfl hl.1 rfl (Nat.le_of_ble_eq_true rfl) dX12_product_7 ⟨Nat.le_of_ble_eq_true rfl, Nat.le_of_ble_eq_true rfl⟩) hP hD hK hS hA (fun z23 u24 H locs w25 hP hD hK hS => ?_)
      obtain ⟨V27, L28⟩ := u24
      obtain ⟨hMV27, ajV27, axL28, rgz23, t26⟩ := w25
      have axL28 : L16 = L28 := Eq.symm axL28
      subst axL28
      have hP : va_P D vwCl (mw ad kk ks.1 V27 L16) H := hP
      have hD : va_D A (mw ad kk ks.1 V27 L16) := hD
      have hMV27 : rgd bM V27 := hMV27
      have ajV27 : agr [(0, 7)] [] V15 V27 := ajV27
      have agV27 : agr [(0, 7), (0, 8), (0, 48), (0, 50)] [35, 36, 37, 38, 45, 46, 47] V V27 := agV15.tr ajV27 (by decide) (by decide)
      have rgz23 : 0 ≤ z23.toInt ∧ z23.toInt ≤ 0 := rgz23
      have t26 : (V27 0 8).toInt = (V15 0 8).toInt := t26
      have pq29 : (V27 0 8).toInt = ((V15 0 8)).toInt := congrArg Int32.toInt (ajV27 0 8 rfl)
      refine lv_if_eq (tgt := 28) hx hb dX12_product_10 (by decide) (fun c30 => ?_) (fun c30 => ?_)
      · skip
        have f31 : z23.toInt = 0 := b_eq rfl (by decide) c30
        have pq32 : (V27 0 48).toInt = ((V15 0 48)).toInt := congrArg Int32.toInt (ajV27 0 48 rfl)
        have pq33 : (V27 0 50).toInt = ((V15 0 50)).toInt := congrArg Int32.toInt (ajV27 0 50 rfl)
        exact W.vret hx hb hr (fun t ht hW => ⟨⟨(V27, L16), rfl, ⟨hMV27, agV27, alL16, (show (V27 0 48).toInt = (V 0 48).toInt from by omega), (show (V27 0 50).toInt = (V 0 50).toInt from by omega), (show (V27 0 8).toInt = (V 0 8).toInt from by omega)⟩, by rw [ht]; exact hP, va_K.moved hW.alike hK, hD⟩, hS.F ht⟩) hS.2.2 dX12_product_28
      · skip
        have f34 : z23.toInt ≠ 0 := b_neq rfl (by decide) c30
        exfalso; omega
  exact lp18 ((1 + 1 : Int).toNat) 1 V9 L10 H locs ls (show 0 ≤ 1 from by omega) (show (V9 0 8).toInt = (V 0 8).toInt from by omega) (show (V9 0 48).toInt = (V 0 48).toInt from by omega) (show (V9 0 50).toInt = (V 0 50).toInt from by omega) (by omega) alL10 agr.rf hMV9 hP hD hS (lv_sub hl [0] rfl)
abbrev r_s_sumB : Room := { frames := 3, cells := 0, slots := 0, locals := 64 }
abbrev q_s_sumB (D : va_G) (ks : KS) (ad : Nat → Nat) (kk : Nat → ClassId) (V : Vf) (L : Lf) (A : Nat → Prop) : Array Value → State → Outcome → State → Prop := va_Qv (fun (u : Vf × Lf) => rgd bM u.1 ∧ agr [(0, 7), (0, 8), (0, 48), (0, 50)] [35, 36, 37, 38, 45, 46, 47] V u.1 ∧ agL [35, 36, 37, 38, 45, 46, 47] L u.2 ∧ ((u.1 0 48).toInt = (V 0 48).toInt) ∧ ((u.1 0 50).toInt = (V 0 50).toInt) ∧ ((u.1 0 8).toInt = (V 0 8).toInt)) (fun u t => gq D A (mw ad kk ks.1 u.1 u.2) (mty kk) t) A
set_option maxHeartbeats 4000000 in
set_option maxRecDepth 100000 in
theorem s_sumB (l : Launch) (D : va_G) (ks : KS) (sz : Nat) (ad : Nat → Nat) (kk : Nat → ClassId) (V : Vf) (L : Lf)  (hMV : rgd bM V) (bf : 1 ≤ (V 0 8).toInt) (bd : (V 0 50).toInt ≤ 8)  : Met l yX12_sum (Cond.code yX12_sum cX12_sum 3 none :: GW) r_s_sumB (va_Pc [.ref (ad 0)] (gp D ks (mw ad kk ks.1 V L) (mty kk) sz)) (q_s_sumB D ks ad kk V L  (va_A (mw ad kk ks.1 V L) sz)) 0 0 (va_A (mw ad kk ks.1 V L) sz) := by
  refine g_met (q_s_sumB D ks ad kk V L) (by decide) (Nat.le_of_ble_eq_true rfl) ?_
  intro p e s m below meth c A ls H locs hx hb hr hml hown hg hlocks hin hnw hgk hP hK hD hS hA hl
  have hown : s.vm.findClass RX12 = some m.cls := hown
  have hl : lv_has ls 3 [(0, .ref (ad 0))] := hl
  have hP : va_P D vwCl (mw ad kk ks.1 V L) H := hP
  have hD : va_D A (mw ad kk ks.1 V L) := hD
  have hK : va_K D vwCl (mty kk) s := hK
  have agV : agr [(0, 7), (0, 8), (0, 48), (0, 50)] [35, 36, 37, 38, 45, 46, 47] V V := agr.rf
  have alL : agL [35, 36, 37, 38, 45, 46, 47] L L := agL.rf
  have r1 : 0 ≤ ((V 0 8)).toInt ∧ ((V 0 8)).toInt ≤ 70000 := hMV 0 8
  have r2 : 0 ≤ ((V 0 50)).toInt ∧ ((V 0 50)).toInt ≤ 9 := hMV 0 50
  refine lv_aload_n hx hb dX12_sum_0 rfl (lv_at hl 0 rfl) ?_
  refine gA_void (gA_runV (As := []) (rest := []) (ci := 12) (q0 := 0) hx hb hml hown hg hP hD hK hS hA hnw hgk (s_productB l D ks H.size ad kk V L  hMV (show 1 ≤ (V 0 8).toInt from by omega) (show (V 0 50).toInt ≤ 8 from by omega)) w2124 w2126 w108 w172 w2127 rfl rfl hdV_yX12_product ⟨Nat.le_of_ble_eq_true rfl, Nat.le_of_ble_eq_true rfl⟩ rfl hl.1 rfl (Nat.le_of_ble_eq_true rfl) dX12_sum_1 ⟨Nat.le_of_ble_eq_true rfl, Nat.le_of_ble_eq_true rfl⟩) hP hD hK hS hA (fun u4 H locs w5 hP hD hK hS => ?_)
  obtain ⟨V9, L10⟩ := u4
  obtain ⟨hMV9, ajV9, axL10, t6, t7, t8⟩ := w5
  have alL10 : agL [35, 36, 37, 38, 45, 46, 47] L L10 := agL.tr alL axL10 (by decide)
  have hP : va_P D vwCl (mw ad kk ks.1 V9 L10) H := hP
  have hD : va_D A (mw ad kk ks.1 V9 L10) := hD
  have hMV9 : rgd bM V9 := hMV9
  have ajV9 : agr [(0, 7), (0, 8), (0, 48), (0, 50)] [35, 36, 37, 38, 45, 46, 47] V V9 := ajV9
  have agV9 : agr [(0, 7), (0, 8), (0, 48), (0, 50)] [35, 36, 37, 38, 45, 46, 47] V V9 := agV.tr ajV9 (by decide) (by decide)
  have t6 : (V9 0 48).toInt = (V 0 48).toInt := t6
  have t7 : (V9 0 50).toInt = (V 0 50).toInt := t7
  have t8 : (V9 0 8).toInt = (V 0 8).toInt := t8
  have r11 : 0 ≤ ((V 0 48)).toInt ∧ ((V 0 48)).toInt ≤ 10000 := hMV 0 48
  have r12 : 0 ≤ ((V9 0 48)).toInt ∧ ((V9 0 48)).toInt ≤ 10000 := hMV9 0 48
  have r13 : 0 ≤ ((V9 0 50)).toInt ∧ ((V9 0 50)).toInt ≤ 9 := hMV9 0 50
  have r14 : 0 ≤ ((V9 0 8)).toInt ∧ ((V9 0 8)).toInt ≤ 70000 := hMV9 0 8
  have lp18 : ∀ (fulp18 : Nat) (g17 : Int) (V15 : Vf) (L16 : Lf) (H : Heap) (locs : List Loc) (ls : Array Slot), 0 ≤ g17 → (V15 0 8).toInt = (V 0 8).toInt → (V15 0 48).toInt = (V 0 48).toInt → (V15 0 50).toInt = (V 0 50).toInt → g17 < (fulp18 : Int) → agL [35, 36, 37, 38, 45, 46, 47] L L16 → agr [(0, 7), (0, 8), (0, 48), (0, 50)] [35, 36, 37, 38, 45, 46, 47] V9 V15 → rgd bM V15 → va_P D vwCl (mw ad kk ks.1 V15 L16) H → va_D A (mw ad kk ks.1 V15 L16) → va_S A s.heap H locs → lv_has ls 3 [(0, .ref (ad 0))] → W p l e r_s_sumB s m ([.ref (ad 0)] : List Value).toArray below meth c H locs 0 0 (MQ below (q_s_sumB D ks ad kk V L  A) ([.ref (ad 0)] : List Value).toArray s 0 0 A) (F0 m 4 ls []) := by
    intro fulp18
    induction fulp18 with
    | zero =>
      intro g17 V15 L16 H locs ls xlp18_0 xlp18_1 xlp18_2 xlp18_3 hn alL16 ajV15 hMV15 hP hD hS hl
      exfalso; omega
    | succ fulp18 ihlp18 =>
      intro g17 V15 L16 H locs ls xlp18_0 xlp18_1 xlp18_2 xlp18_3 hn alL16 ajV15 hMV15 hP hD hS hl
      have agV15 : agr [(0, 7), (0, 8), (0, 48), (0, 50)] [35, 36, 37, 38, 45, 46, 47] V V15 := agV9.tr ajV15 (by decide) (by decide)
      have r19 : 0 ≤ ((V15 0 8)).toInt ∧ ((V15 0 8)).toInt ≤ 70000 := hMV15 0 8
      have r20 : 0 ≤ ((V15 0 48)).toInt ∧ ((V15 0 48)).toInt ≤ 10000 := hMV15 0 48
      have r21 : 0 ≤ ((V15 0 50)).toInt ∧ ((V15 0 50)).toInt ≤ 9 := hMV15 0 50
      refine lv_aload_n hx hb dX12_sum_4 rfl (lv_at hl 0 rfl) ?_
      refine lv_bipush (v := 43) hx hb dX12_sum_5 (by decide) ?_
      have r22 : Int32.toInt 43 = 43 := by decide
      refine gA_int (gA_runV (As := [.int 43]) (rest := []) (ci := 12) (q0 := 0) hx hb hml hown hg hP hD hK hS hA hnw hgk (s_isSignB l D ks H.size ad kk V15 L16 43 hMV15 (show 1 ≤ (V15 0 8).toInt from by omega)) w2071 w2073 w95 w172 w2074 rfl rfl hdV_yX12_isSign ⟨Nat.le_of_ble_eq_true rfl, Nat.le_of_ble_eq_true rfl⟩ rfl hl.1 rfl (Nat.le_of_ble_eq_true rfl) dX12_sum_7 ⟨Nat.le_of_ble_eq_true rfl, Nat.le_of_ble_eq_true rfl⟩) hP hD hK hS hA (fun z23 u24 H locs w25 hP hD hK hS => ?_)
      have rgz23 := w25
      have rgz23 : 0 ≤ z23.toInt ∧ z23.toInt ≤ 0 := rgz23
      refine lv_if_ne (tgt := 22) hx hb dX12_sum_10 (by decide) (fun c26 => ?_) (fun c26 => ?_)
      · skip
        have f27 : z23.toInt ≠ 0 := b_neq rfl (by decide) c26
        exfalso; omega
      · skip
        have f28 : z23.toInt = 0 := b_eq rfl (by decide) c26
        refine lv_aload_n hx hb dX12_sum_13 rfl (lv_at hl 0 rfl) ?_
        refine lv_bipush (v := 45) hx hb dX12_sum_14 (by decide) ?_
        have r29 : Int32.toInt 45 = 45 := by decide
        refine gA_int (gA_runV (As := [.int 45]) (rest := []) (ci := 12) (q0 := 0) hx hb hml hown hg hP hD hK hS hA hnw hgk (s_isSignB l D ks H.size ad kk V15 L16 45 hMV15 (show 1 ≤ (V15 0 8).toInt from by omega)) w2071 w2073 w95 w172 w2074 rfl rfl hdV_yX12_isSign ⟨Nat.le_of_ble_eq_true rfl, Nat.le_of_ble_eq_true rfl⟩ rfl hl.1 rfl (Nat.le_of_ble_eq_true rfl) dX12_sum_16 ⟨Nat.le_of_ble_eq_true rfl, Nat.le_of_ble_eq_true rfl⟩) hP hD hK hS hA (fun z30 u31 H locs w32 hP hD hK hS => ?_)
        have rgz30 := w32
        have rgz30 : 0 ≤ z30.toInt ∧ z30.toInt ≤ 0 := rgz30
        refine lv_if_eq (tgt := 64) hx hb dX12_sum_19 (by decide) (fun c33 => ?_) (fun c33 => ?_)
        · skip
          have f34 : z30.toInt = 0 := b_eq rfl (by decide) c33
          exact W.vret hx hb hr (fun t ht hW => ⟨⟨(V15, L16), rfl, ⟨hMV15, agV15, alL16, (show (V15 0 48).toInt = (V 0 48).toInt from by omega), (show (V15 0 50).toInt = (V 0 50).toInt from by omega), (show (V15 0 8).toInt = (V 0 8).toInt from by omega)⟩, by rw [ht]; exact hP, va_K.moved hW.alike hK, hD⟩, hS.F ht⟩) hS.2.2 dX12_sum_64
        · skip
          have f35 : z30.toInt ≠ 0 := b_neq rfl (by decide) c33
          exfalso; omega
  exact lp18 ((1 + 1 : Int).toNat) 1 V9 L10 H locs ls (show 0 ≤ 1 from by omega) (show (V9 0 8).toInt = (V 0 8).toInt from by omega) (show (V9 0 48).toInt = (V 0 48).toInt from by omega) (show (V9 0 50).toInt = (V 0 50).toInt from by omega) (by omega) alL10 agr.rf hMV9 hP hD hS (lv_sub hl [0] rfl)
abbrev r_s_expressionB : Room := { frames := 4, cells := 0, slots := 0, locals := 86 }
abbrev q_s_expressionB (D : va_G) (ks : KS) (ad : Nat → Nat) (kk : Nat → ClassId) (V : Vf) (L : Lf) (A : Nat → Prop) : Array Value → State → Outcome → State → Prop := va_Qv (fun (u : Vf × Lf) => rgd bM u.1 ∧ agr [(0, 7), (0, 8), (0, 48), (0, 50)] [35, 36, 37, 38, 45, 46, 47] V u.1 ∧ agL [35, 36, 37, 38, 45, 46, 47] L u.2 ∧ ((u.1 0 48).toInt = (V 0 48).toInt) ∧ ((u.1 0 50).toInt = (V 0 50).toInt) ∧ ((u.1 0 8).toInt = (V 0 8).toInt)) (fun u t => gq D A (mw ad kk ks.1 u.1 u.2) (mty kk) t) A
set_option maxHeartbeats 4000000 in
set_option maxRecDepth 100000 in
theorem s_expressionB (l : Launch) (D : va_G) (ks : KS) (sz : Nat) (ad : Nat → Nat) (kk : Nat → ClassId) (V : Vf) (L : Lf)  (hMV : rgd bM V) (bf : 1 ≤ (V 0 8).toInt) (bd : (V 0 50).toInt ≤ 8)  : Met l yX12_expression (Cond.code yX12_expression cX12_expression 3 none :: GW) r_s_expressionB (va_Pc [.ref (ad 0)] (gp D ks (mw ad kk ks.1 V L) (mty kk) sz)) (q_s_expressionB D ks ad kk V L  (va_A (mw ad kk ks.1 V L) sz)) 0 0 (va_A (mw ad kk ks.1 V L) sz) := by
  refine g_met (q_s_expressionB D ks ad kk V L) (by decide) (Nat.le_of_ble_eq_true rfl) ?_
  intro p e s m below meth c A ls H locs hx hb hr hml hown hg hlocks hin hnw hgk hP hK hD hS hA hl
  have hown : s.vm.findClass RX12 = some m.cls := hown
  have hl : lv_has ls 3 [(0, .ref (ad 0))] := hl
  have hP : va_P D vwCl (mw ad kk ks.1 V L) H := hP
  have hD : va_D A (mw ad kk ks.1 V L) := hD
  have hK : va_K D vwCl (mty kk) s := hK
  have agV : agr [(0, 7), (0, 8), (0, 48), (0, 50)] [35, 36, 37, 38, 45, 46, 47] V V := agr.rf
  have alL : agL [35, 36, 37, 38, 45, 46, 47] L L := agL.rf
  have r1 : 0 ≤ ((V 0 8)).toInt ∧ ((V 0 8)).toInt ≤ 70000 := hMV 0 8
  have r2 : 0 ≤ ((V 0 50)).toInt ∧ ((V 0 50)).toInt ≤ 9 := hMV 0 50
  refine lv_aload_n hx hb dX12_expression_0 rfl (lv_at hl 0 rfl) ?_
  refine gA_void (gA_runV (As := []) (rest := []) (ci := 12) (q0 := 0) hx hb hml hown hg hP hD hK hS hA hnw hgk (s_sumB l D ks H.size ad kk V L  hMV (show 1 ≤ (V 0 8).toInt from by omega) (show (V 0 50).toInt ≤ 8 from by omega)) w2120 w2122 w107 w172 w2123 rfl rfl hdV_yX12_sum ⟨Nat.le_of_ble_eq_true rfl, Nat.le_of_ble_eq_true rfl⟩ rfl hl.1 rfl (Nat.le_of_ble_eq_true rfl) dX12_expression_1 ⟨Nat.le_of_ble_eq_true rfl, Nat.le_of_ble_eq_true rfl⟩) hP hD hK hS hA (fun u4 H locs w5 hP hD hK hS => ?_)
  obtain ⟨V9, L10⟩ := u4
  obtain ⟨hMV9, ajV9, axL10, t6, t7, t8⟩ := w5
  have alL10 : agL [35, 36, 37, 38, 45, 46, 47] L L10 := agL.tr alL axL10 (by decide)
  have hP : va_P D vwCl (mw ad kk ks.1 V9 L10) H := hP
  have hD : va_D A (mw ad kk ks.1 V9 L10) := hD
  have hMV9 : rgd bM V9 := hMV9
  have ajV9 : agr [(0, 7), (0, 8), (0, 48), (0, 50)] [35, 36, 37, 38, 45, 46, 47] V V9 := ajV9
  have agV9 : agr [(0, 7), (0, 8), (0, 48), (0, 50)] [35, 36, 37, 38, 45, 46, 47] V V9 := agV.tr ajV9 (by decide) (by decide)
  have t6 : (V9 0 48).toInt = (V 0 48).toInt := t6
  have t7 : (V9 0 50).toInt = (V 0 50).toInt := t7
  have t8 : (V9 0 8).toInt = (V 0 8).toInt := t8
  have r11 : 0 ≤ ((V 0 48)).toInt ∧ ((V 0 48)).toInt ≤ 10000 := hMV 0 48
  have r12 : 0 ≤ ((V9 0 48)).toInt ∧ ((V9 0 48)).toInt ≤ 10000 := hMV9 0 48
  have r13 : 0 ≤ ((V9 0 50)).toInt ∧ ((V9 0 50)).toInt ≤ 9 := hMV9 0 50
  have r14 : 0 ≤ ((V9 0 8)).toInt ∧ ((V9 0 8)).toInt ≤ 70000 := hMV9 0 8
  refine lv_aload_n hx hb dX12_expression_4 rfl (lv_at hl 0 rfl) ?_
  refine lv_bipush (v := 60) hx hb dX12_expression_5 (by decide) ?_
  have r15 : Int32.toInt 60 = 60 := by decide
  refine gA_int (gA_runV (As := [.int 60]) (rest := []) (ci := 12) (q0 := 0) hx hb hml hown hg hP hD hK hS hA hnw hgk (s_isSignB l D ks H.size ad kk V9 L10 60 hMV9 (show 1 ≤ (V9 0 8).toInt from by omega)) w2071 w2073 w95 w172 w2074 rfl rfl hdV_yX12_isSign ⟨Nat.le_of_ble_eq_true rfl, Nat.le_of_ble_eq_true rfl⟩ rfl hl.1 rfl (Nat.le_of_ble_eq_true rfl) dX12_expression_7 ⟨Nat.le_of_ble_eq_true rfl, Nat.le_of_ble_eq_true rfl⟩) hP hD hK hS hA (fun z16 u17 H locs w18 hP hD hK hS => ?_)
  have rgz16 := w18
  have rgz16 : 0 ≤ z16.toInt ∧ z16.toInt ≤ 0 := rgz16
  refine lv_istore_n (lv' := [(1, .int z16), (0, .ref (ad 0))]) hx hb dX12_expression_10 rfl hl (by decide) rfl (fun ls hl => ?_)
  refine lv_iload_n hx hb dX12_expression_11 rfl (lv_at hl 0 rfl) ?_
  refine lv_if_ne (tgt := 24) hx hb dX12_expression_12 (by decide) (fun c19 => ?_) (fun c19 => ?_)
  · skip
    have f20 : z16.toInt ≠ 0 := b_neq rfl (by decide) c19
    exfalso; omega
  · skip
    have f21 : z16.toInt = 0 := b_eq rfl (by decide) c19
    refine lv_aload_n hx hb dX12_expression_15 rfl (lv_at hl 1 rfl) ?_
    refine lv_bipush (v := 61) hx hb dX12_expression_16 (by decide) ?_
    have r22 : Int32.toInt 61 = 61 := by decide
    refine gA_int (gA_runV (As := [.int 61]) (rest := []) (ci := 12) (q0 := 0) hx hb hml hown hg hP hD hK hS hA hnw hgk (s_isSignB l D ks H.size ad kk V9 L10 61 hMV9 (show 1 ≤ (V9 0 8).toInt from by omega)) w2071 w2073 w95 w172 w2074 rfl rfl hdV_yX12_isSign ⟨Nat.le_of_ble_eq_true rfl, Nat.le_of_ble_eq_true rfl⟩ rfl hl.1 rfl (Nat.le_of_ble_eq_true rfl) dX12_expression_18 ⟨Nat.le_of_ble_eq_true rfl, Nat.le_of_ble_eq_true rfl⟩) hP hD hK hS hA (fun z23 u24 H locs w25 hP hD hK hS => ?_)
    have rgz23 := w25
    have rgz23 : 0 ≤ z23.toInt ∧ z23.toInt ≤ 0 := rgz23
    refine lv_if_eq (tgt := 56) hx hb dX12_expression_21 (by decide) (fun c26 => ?_) (fun c26 => ?_)
    · skip
      have f27 : z23.toInt = 0 := b_eq rfl (by decide) c26
      exact W.vret hx hb hr (fun t ht hW => ⟨⟨(V9, L10), rfl, ⟨hMV9, agV9, alL10, (show (V9 0 48).toInt = (V 0 48).toInt from by omega), (show (V9 0 50).toInt = (V 0 50).toInt from by omega), (show (V9 0 8).toInt = (V 0 8).toInt from by omega)⟩, by rw [ht]; exact hP, va_K.moved hW.alike hK, hD⟩, hS.F ht⟩) hS.2.2 dX12_expression_56
    · skip
      have f28 : z23.toInt ≠ 0 := b_neq rfl (by decide) c26
      exfalso; omega
abbrev r_s_bracketedB : Room := { frames := 5, cells := 0, slots := 0, locals := 108 }
abbrev q_s_bracketedB (D : va_G) (ks : KS) (ad : Nat → Nat) (kk : Nat → ClassId) (V : Vf) (L : Lf) (A : Nat → Prop) : Array Value → State → Outcome → State → Prop := va_Qv (fun (u : Vf × Lf) => rgd bM u.1 ∧ agr [(0, 7), (0, 8), (0, 48), (0, 50)] [35, 36, 37, 38, 45, 46, 47] V u.1 ∧ agL [35, 36, 37, 38, 45, 46, 47] L u.2 ∧ ((u.1 0 48).toInt = (V 0 48).toInt) ∧ ((u.1 0 50).toInt = (V 0 50).toInt) ∧ ((u.1 0 8).toInt = (V 0 8).toInt)) (fun u t => gq D A (mw ad kk ks.1 u.1 u.2) (mty kk) t) A
set_option maxHeartbeats 4000000 in
set_option maxRecDepth 100000 in
theorem s_bracketedB (l : Launch) (D : va_G) (ks : KS) (sz : Nat) (ad : Nat → Nat) (kk : Nat → ClassId) (V : Vf) (L : Lf)  (hMV : rgd bM V) (bf : 1 ≤ (V 0 8).toInt) (bd : (V 0 50).toInt ≤ 8)  : Met l yX12_bracketed (Cond.code yX12_bracketed cX12_bracketed 1 none :: GW) r_s_bracketedB (va_Pc [.ref (ad 0)] (gp D ks (mw ad kk ks.1 V L) (mty kk) sz)) (q_s_bracketedB D ks ad kk V L  (va_A (mw ad kk ks.1 V L) sz)) 0 0 (va_A (mw ad kk ks.1 V L) sz) := by
  refine g_met (q_s_bracketedB D ks ad kk V L) (by decide) (Nat.le_of_ble_eq_true rfl) ?_
  intro p e s m below meth c A ls H locs hx hb hr hml hown hg hlocks hin hnw hgk hP hK hD hS hA hl
  have hown : s.vm.findClass RX12 = some m.cls := hown
  have hl : lv_has ls 1 [(0, .ref (ad 0))] := hl
  have hP : va_P D vwCl (mw ad kk ks.1 V L) H := hP
  have hD : va_D A (mw ad kk ks.1 V L) := hD
  have hK : va_K D vwCl (mty kk) s := hK
  have agV : agr [(0, 7), (0, 8), (0, 48), (0, 50)] [35, 36, 37, 38, 45, 46, 47] V V := agr.rf
  have alL : agL [35, 36, 37, 38, 45, 46, 47] L L := agL.rf
  have r1 : 0 ≤ ((V 0 8)).toInt ∧ ((V 0 8)).toInt ≤ 70000 := hMV 0 8
  have r2 : 0 ≤ ((V 0 50)).toInt ∧ ((V 0 50)).toInt ≤ 9 := hMV 0 50
  refine lv_aload_n hx hb dX12_bracketed_0 rfl (lv_at hl 0 rfl) ?_
  refine lv_bipush (v := 40) hx hb dX12_bracketed_1 (by decide) ?_
  have r3 : Int32.toInt 40 = 40 := by decide
  refine gA_void (gA_runV (As := [.int 40]) (rest := []) (ci := 12) (q0 := 0) hx hb hml hown hg hP hD hK hS hA hnw hgk (s_takeSignB l D ks H.size ad kk V L 40 hMV (show 1 ≤ (V 0 8).toInt from by omega)) w2075 w2077 w96 w172 w2078 rfl rfl hdV_yX12_takeSign ⟨Nat.le_of_ble_eq_true rfl, Nat.le_of_ble_eq_true rfl⟩ rfl hl.1 rfl (Nat.le_of_ble_eq_true rfl) dX12_bracketed_3 ⟨Nat.le_of_ble_eq_true rfl, Nat.le_of_ble_eq_true rfl⟩) hP hD hK hS hA (fun u5 H locs w6 hP hD hK hS => ?_)
  obtain ⟨V8, L9⟩ := u5
  obtain ⟨hMV8, ajV8, axL9, t7⟩ := w6
  have axL9 : L = L9 := Eq.symm axL9
  subst axL9
  have hP : va_P D vwCl (mw ad kk ks.1 V8 L) H := hP
  have hD : va_D A (mw ad kk ks.1 V8 L) := hD
  have hMV8 : rgd bM V8 := hMV8
  have ajV8 : agr [(0, 7), (0, 8)] [] V V8 := ajV8
  have agV8 : agr [(0, 7), (0, 8), (0, 48), (0, 50)] [35, 36, 37, 38, 45, 46, 47] V V8 := agV.tr ajV8 (by decide) (by decide)
  have t7 : (V8 0 8).toInt = (V 0 8).toInt := t7
  have r10 : 0 ≤ ((V8 0 8)).toInt ∧ ((V8 0 8)).toInt ≤ 70000 := hMV8 0 8
  refine lv_aload_n hx hb dX12_bracketed_6 rfl (lv_at hl 0 rfl) ?_
  have pq11 : (V8 0 50).toInt = ((V 0 50)).toInt := congrArg Int32.toInt (ajV8 0 50 rfl)
  refine gA_void (gA_runV (As := []) (rest := []) (ci := 12) (q0 := 0) hx hb hml hown hg hP hD hK hS hA hnw hgk (s_expressionB l D ks H.size ad kk V8 L  hMV8 (show 1 ≤ (V8 0 8).toInt from by omega) (show (V8 0 50).toInt ≤ 8 from by omega)) w2116 w2118 w106 w172 w2119 rfl rfl hdV_yX12_expression ⟨Nat.le_of_ble_eq_true rfl, Nat.le_of_ble_eq_true rfl⟩ rfl hl.1 rfl (Nat.le_of_ble_eq_true rfl) dX12_bracketed_7 ⟨Nat.le_of_ble_eq_true rfl, Nat.le_of_ble_eq_true rfl⟩) hP hD hK hS hA (fun u13 H locs w14 hP hD hK hS => ?_)
  obtain ⟨V18, L19⟩ := u13
  obtain ⟨hMV18, ajV18, axL19, t15, t16, t17⟩ := w14
  have alL19 : agL [35, 36, 37, 38, 45, 46, 47] L L19 := agL.tr alL axL19 (by decide)
  have hP : va_P D vwCl (mw ad kk ks.1 V18 L19) H := hP
  have hD : va_D A (mw ad kk ks.1 V18 L19) := hD
  have hMV18 : rgd bM V18 := hMV18
  have ajV18 : agr [(0, 7), (0, 8), (0, 48), (0, 50)] [35, 36, 37, 38, 45, 46, 47] V8 V18 := ajV18
  have agV18 : agr [(0, 7), (0, 8), (0, 48), (0, 50)] [35, 36, 37, 38, 45, 46, 47] V V18 := agV8.tr ajV18 (by decide) (by decide)
  have t15 : (V18 0 48).toInt = (V8 0 48).toInt := t15
  have t16 : (V18 0 50).toInt = (V8 0 50).toInt := t16
  have t17 : (V18 0 8).toInt = (V8 0 8).toInt := t17
  have pq20 : (V8 0 48).toInt = ((V 0 48)).toInt := congrArg Int32.toInt (ajV8 0 48 rfl)
  have r21 : 0 ≤ ((V 0 48)).toInt ∧ ((V 0 48)).toInt ≤ 10000 := hMV 0 48
  have r22 : 0 ≤ ((V18 0 48)).toInt ∧ ((V18 0 48)).toInt ≤ 10000 := hMV18 0 48
  have r23 : 0 ≤ ((V18 0 50)).toInt ∧ ((V18 0 50)).toInt ≤ 9 := hMV18 0 50
  have r24 : 0 ≤ ((V18 0 8)).toInt ∧ ((V18 0 8)).toInt ≤ 70000 := hMV18 0 8
  refine lv_aload_n hx hb dX12_bracketed_10 rfl (lv_at hl 0 rfl) ?_
  refine lv_bipush (v := 41) hx hb dX12_bracketed_11 (by decide) ?_
  have r25 : Int32.toInt 41 = 41 := by decide
  refine gA_void (gA_runV (As := [.int 41]) (rest := []) (ci := 12) (q0 := 0) hx hb hml hown hg hP hD hK hS hA hnw hgk (s_takeSignB l D ks H.size ad kk V18 L19 41 hMV18 (show 1 ≤ (V18 0 8).toInt from by omega)) w2075 w2077 w96 w172 w2078 rfl rfl hdV_yX12_takeSign ⟨Nat.le_of_ble_eq_true rfl, Nat.le_of_ble_eq_true rfl⟩ rfl hl.1 rfl (Nat.le_of_ble_eq_true rfl) dX12_bracketed_13 ⟨Nat.le_of_ble_eq_true rfl, Nat.le_of_ble_eq_true rfl⟩) hP hD hK hS hA (fun u27 H locs w28 hP hD hK hS => ?_)
  obtain ⟨V30, L31⟩ := u27
  obtain ⟨hMV30, ajV30, axL31, t29⟩ := w28
  have axL31 : L19 = L31 := Eq.symm axL31
  subst axL31
  have hP : va_P D vwCl (mw ad kk ks.1 V30 L19) H := hP
  have hD : va_D A (mw ad kk ks.1 V30 L19) := hD
  have hMV30 : rgd bM V30 := hMV30
  have ajV30 : agr [(0, 7), (0, 8)] [] V18 V30 := ajV30
  have agV30 : agr [(0, 7), (0, 8), (0, 48), (0, 50)] [35, 36, 37, 38, 45, 46, 47] V V30 := agV18.tr ajV30 (by decide) (by decide)
  have t29 : (V30 0 8).toInt = (V18 0 8).toInt := t29
  have r32 : 0 ≤ ((V30 0 8)).toInt ∧ ((V30 0 8)).toInt ≤ 70000 := hMV30 0 8
  have pq33 : (V30 0 48).toInt = ((V18 0 48)).toInt := congrArg Int32.toInt (ajV30 0 48 rfl)
  have pq34 : (V30 0 50).toInt = ((V18 0 50)).toInt := congrArg Int32.toInt (ajV30 0 50 rfl)
  exact W.vret hx hb hr (fun t ht hW => ⟨⟨(V30, L19), rfl, ⟨hMV30, agV30, alL19, (show (V30 0 48).toInt = (V 0 48).toInt from by omega), (show (V30 0 50).toInt = (V 0 50).toInt from by omega), (show (V30 0 8).toInt = (V 0 8).toInt from by omega)⟩, by rw [ht]; exact hP, va_K.moved hW.alike hK, hD⟩, hS.F ht⟩) hS.2.2 dX12_bracketed_16
abbrev r_s_codeB : Room := { frames := 5, cells := 0, slots := 0, locals := 108 }
abbrev q_s_codeB (D : va_G) (ks : KS) (ad : Nat → Nat) (kk : Nat → ClassId) (V : Vf) (L : Lf) (A : Nat → Prop) : Array Value → State → Outcome → State → Prop := va_Qi (fun (r : Int32) (u : Vf × Lf) => rgd bM u.1 ∧ agr [(0, 7), (0, 8), (0, 48), (0, 50)] [35, 36, 37, 38, 45, 46, 47] V u.1 ∧ agL [35, 36, 37, 38, 45, 46, 47] L u.2 ∧ (0 ≤ r.toInt ∧ r.toInt ≤ 20000) ∧ ((u.1 0 48).toInt = (V 0 48).toInt + 1) ∧ ((u.1 0 8).toInt = (V 0 8).toInt)) (fun u t => gq D A (mw ad kk ks.1 u.1 u.2) (mty kk) t) A
set_option maxHeartbeats 4000000 in
set_option maxRecDepth 100000 in
theorem s_codeB (l : Launch) (D : va_G) (ks : KS) (sz : Nat) (ad : Nat → Nat) (kk : Nat → ClassId) (V : Vf) (L : Lf)  (hMV : rgd bM V) (bf : 1 ≤ (V 0 8).toInt) (bc : (V 0 48).toInt ≤ 9000)  : Met l yX12_code (Cond.code yX12_code cX12_code 3 (some .int) :: GW) r_s_codeB (va_Pc [.ref (ad 0)] (gp D ks (mw ad kk ks.1 V L) (mty kk) sz)) (q_s_codeB D ks ad kk V L  (va_A (mw ad kk ks.1 V L) sz)) 0 0 (va_A (mw ad kk ks.1 V L) sz) := by
  refine g_met (q_s_codeB D ks ad kk V L) (by decide) (Nat.le_of_ble_eq_true rfl) ?_
  intro p e s m below meth c A ls H locs hx hb hr hml hown hg hlocks hin hnw hgk hP hK hD hS hA hl
  have hown : s.vm.findClass RX12 = some m.cls := hown
  have hl : lv_has ls 3 [(0, .ref (ad 0))] := hl
  have hP : va_P D vwCl (mw ad kk ks.1 V L) H := hP
  have hD : va_D A (mw ad kk ks.1 V L) := hD
  have hK : va_K D vwCl (mty kk) s := hK
  have agV : agr [(0, 7), (0, 8), (0, 48), (0, 50)] [35, 36, 37, 38, 45, 46, 47] V V := agr.rf
  have alL : agL [35, 36, 37, 38, 45, 46, 47] L L := agL.rf
  have r1 : 0 ≤ ((V 0 8)).toInt ∧ ((V 0 8)).toInt ≤ 70000 := hMV 0 8
  have r2 : 0 ≤ ((V 0 48)).toInt ∧ ((V 0 48)).toInt ≤ 10000 := hMV 0 48
  refine lv_aload_n hx hb dX12_code_0 rfl (lv_at hl 0 rfl) ?_
  refine va_get (D := D) (ci := 12) (v := .int (V 0 49)) (C := RX12) (T := TX12) (N := 100) hx hb hg inX12 hown hK hP 0 rfl rfl 49 (by decide) (hg _ w1755) (fun _ h9 => h9) rfl dX12_code_1 ?_
  have r3 : 0 ≤ ((V 0 49)).toInt ∧ ((V 0 49)).toInt ≤ 10000 := hMV 0 49
  refine lv_aload_n hx hb dX12_code_4 rfl (lv_at hl 0 rfl) ?_
  refine va_get (D := D) (ci := 12) (v := .int (V 0 48)) (C := RX12) (T := TX12) (N := 100) hx hb hg inX12 hown hK hP 0 rfl rfl 48 (by decide) (hg _ w1754) (fun _ h9 => h9) rfl dX12_code_5 ?_
  refine lv_iadd hx hb dX12_code_8 ?_
  refine lv_topi (fun z4 ez4 => ?_)
  have hz4 : z4.toInt = ((V 0 49)).toInt + ((V 0 48)).toInt := i_add ez4 rfl rfl (by omega)
  refine lv_istore_n (lv' := [(1, .int z4), (0, .ref (ad 0))]) hx hb dX12_code_9 rfl hl (by decide) rfl (fun ls hl => ?_)
  refine lv_aload_n hx hb dX12_code_10 rfl (lv_at hl 1 rfl) ?_
  refine lv_iconst (v := 0) hx hb dX12_code_11 (by decide) ?_
  refine va_put (D := D) (ci := 12) (v := .int 0) (ty := tyX12 50) (C := RX12) (T := TX12) (N := 100) hx hb hg inX12 tyX12 tyX12_ok nmX12 hown hK hP hD hS 0 rfl rfl 50 (by decide) (hg _ w1756) (fun _ h9 => h9) rfl (tyX12_ok 50 (by decide)) rfl rfl (Nat.le_of_ble_eq_true rfl) dX12_code_12 (fun H locs hP hD hS => ?_)
  obtain ⟨V5, hV5⟩ : ∃ z, z = up2 V 0 50 0 := ⟨_, rfl⟩
  have hP : va_P D vwCl (mw ad kk ks.1 V5 L) H := by rw [hV5]; exact hP
  have hD : va_D A (mw ad kk ks.1 V5 L) := by rw [hV5]; exact hD
  have hMV5 : rgd bM V5 := hMV.put hV5 (by decide)
  have agV5 : agr [(0, 7), (0, 8), (0, 48), (0, 50)] [35, 36, 37, 38, 45, 46, 47] V V5 := agV.up hV5 rfl
  refine lv_aload_n hx hb dX12_code_15 rfl (lv_at hl 1 rfl) ?_
  have pq6 : (V5 0 8).toInt = ((V 0 8)).toInt := congrArg Int32.toInt (up2_k hV5 (by decide))
  have pq7 : (V5 0 50).toInt = 0 := (congrArg Int32.toInt (up2_s hV5)).trans (by decide)
  refine gA_void (gA_runV (As := []) (rest := []) (ci := 12) (q0 := 0) hx hb hml hown hg hP hD hK hS hA hnw hgk (s_expressionB l D ks H.size ad kk V5 L  hMV5 (show 1 ≤ (V5 0 8).toInt from by omega) (show (V5 0 50).toInt ≤ 8 from by omega)) w2116 w2118 w106 w172 w2119 rfl rfl hdV_yX12_expression ⟨Nat.le_of_ble_eq_true rfl, Nat.le_of_ble_eq_true rfl⟩ rfl hl.1 rfl (Nat.le_of_ble_eq_true rfl) dX12_code_16 ⟨Nat.le_of_ble_eq_true rfl, Nat.le_of_ble_eq_true rfl⟩) hP hD hK hS hA (fun u9 H locs w10 hP hD hK hS => ?_)
  obtain ⟨V14, L15⟩ := u9
  obtain ⟨hMV14, ajV14, axL15, t11, t12, t13⟩ := w10
  have alL15 : agL [35, 36, 37, 38, 45, 46, 47] L L15 := agL.tr alL axL15 (by decide)
  have hP : va_P D vwCl (mw ad kk ks.1 V14 L15) H := hP
  have hD : va_D A (mw ad kk ks.1 V14 L15) := hD
  have hMV14 : rgd bM V14 := hMV14
  have ajV14 : agr [(0, 7), (0, 8), (0, 48), (0, 50)] [35, 36, 37, 38, 45, 46, 47] V5 V14 := ajV14
  have agV14 : agr [(0, 7), (0, 8), (0, 48), (0, 50)] [35, 36, 37, 38, 45, 46, 47] V V14 := agV5.tr ajV14 (by decide) (by decide)
  have t11 : (V14 0 48).toInt = (V5 0 48).toInt := t11
  have t12 : (V14 0 50).toInt = (V5 0 50).toInt := t12
  have t13 : (V14 0 8).toInt = (V5 0 8).toInt := t13
  have pq16 : (V5 0 48).toInt = ((V 0 48)).toInt := congrArg Int32.toInt (up2_k hV5 (by decide))
  have r17 : 0 ≤ ((V14 0 48)).toInt ∧ ((V14 0 48)).toInt ≤ 10000 := hMV14 0 48
  have r18 : 0 ≤ ((V14 0 50)).toInt ∧ ((V14 0 50)).toInt ≤ 9 := hMV14 0 50
  have r19 : 0 ≤ ((V14 0 8)).toInt ∧ ((V14 0 8)).toInt ≤ 70000 := hMV14 0 8
  refine lv_aload_n hx hb dX12_code_19 rfl (lv_at hl 1 rfl) ?_
  refine lv_iconst (v := 0) hx hb dX12_code_20 (by decide) ?_
  refine lv_iconst (v := 0) hx hb dX12_code_21 (by decide) ?_
  refine lv_iconst (v := 0) hx hb dX12_code_22 (by decide) ?_
  have r20 : Int32.toInt 0 = 0 := by decide
  refine gA_int (gA_runV (As := [.int 0, .int 0, .int 0]) (rest := []) (ci := 12) (q0 := 0) hx hb hml hown hg hP hD hK hS hA hnw hgk (s_emit3 l D ks H.size ad kk V14 L15 0 0 0 hMV14 (show (V14 0 48).toInt ≤ 9999 from by omega)) w2136 w2138 w111 w172 w2139 rfl rfl hdV_yX12_emit ⟨Nat.le_of_ble_eq_true rfl, Nat.le_of_ble_eq_true rfl⟩ rfl hl.1 rfl (Nat.le_of_ble_eq_true rfl) dX12_code_23 ⟨Nat.le_of_ble_eq_true rfl, Nat.le_of_ble_eq_true rfl⟩) hP hD hK hS hA (fun z21 u22 H locs w23 hP hD hK hS => ?_)
  obtain ⟨V27, L28⟩ := u22
  obtain ⟨hMV27, ajV27, axL28, rgz21, t24, t25, t26⟩ := w23
  have axL28 : L15 = L28 := Eq.symm axL28
  subst axL28
  have hP : va_P D vwCl (mw ad kk ks.1 V27 L15) H := hP
  have hD : va_D A (mw ad kk ks.1 V27 L15) := hD
  have hMV27 : rgd bM V27 := hMV27
  have ajV27 : agr [(0, 48)] [45, 46, 47] V14 V27 := ajV27
  have agV27 : agr [(0, 7), (0, 8), (0, 48), (0, 50)] [35, 36, 37, 38, 45, 46, 47] V V27 := agV14.tr ajV27 (by decide) (by decide)
  have rgz21 : 0 ≤ z21.toInt ∧ z21.toInt ≤ 20000 := rgz21
  have t24 : (V27 0 48).toInt = (V14 0 48).toInt + 1 := t24
  have t25 : z21.toInt = (V14 0 49).toInt + (V14 0 48).toInt := t25
  have t26 : emitted V14 V27 (pA V14) 0 0 0 := t26
  have r29 : 0 ≤ ((V27 0 48)).toInt ∧ ((V27 0 48)).toInt ≤ 10000 := hMV27 0 48
  have pq30 : (V14 0 49).toInt = ((V 0 49)).toInt := congrArg Int32.toInt ((ajV14 0 49 rfl).trans (up2_k hV5 (by decide)))
  refine lv_istore_n (lv' := [(2, .int z21), (1, .int z4), (0, .ref (ad 0))]) hx hb dX12_code_26 rfl hl (by decide) rfl (fun ls hl => ?_)
  refine lv_iload_n hx hb dX12_code_27 rfl (lv_at hl 1 rfl) ?_
  have pq31 : (V27 0 8).toInt = ((V14 0 8)).toInt := congrArg Int32.toInt (ajV27 0 8 rfl)
  exact W.iret (v := z4) hx hb hr (fun t ht hW => ⟨⟨z4, (V27, L15), rfl, ⟨hMV27, agV27, alL15, (show 0 ≤ z4.toInt ∧ z4.toInt ≤ 20000 from by omega), (show (V27 0 48).toInt = (V 0 48).toInt + 1 from by omega), (show (V27 0 8).toInt = (V 0 8).toInt from by omega)⟩, by rw [ht]; exact hP, va_K.moved hW.alike hK, hD⟩, hS.F ht⟩) hS.2.2 dX12_code_28
abbrev q_s_expressionA (D : va_G) (ks : KS) (ad : Nat → Nat) (kk : Nat → ClassId) (V : Vf) (L : Lf) (bq : Nat) (gn : Nat) (gT : Tk) (gs : St) (gl : List Int64) (gd : Nat) (A : Nat → Prop) : Array Value → State → Outcome → State → Prop := va_Qv (fun (u : Vf × Lf) => rgd bM u.1 ∧ agr [(0, 7), (0, 8), (0, 48), (0, 50)] [35, 36, 37, 38, 45, 46, 47] V u.1 ∧ agL [35, 36, 37, 38, 45, 46, 47] L u.2 ∧ (Imp ((u.1 0 8).toInt = 0) ((u.1 0 48).toInt - (V 0 48).toInt ≤ 2 * ((u.1 0 7).toInt - (V 0 7).toInt))) ∧ ((u.1 0 48).toInt ≤ 8051 - 6 * (V 0 50).toInt) ∧ ((u.1 0 50).toInt = (V 0 50).toInt) ∧ ((V 0 48).toInt ≤ (u.1 0 48).toInt) ∧ (RdM gT gs (fun k => Iexpr gd :: k) (fun k => k) (u.1 0 8).toInt (fun s9 => RelM u.1 u.2 bq gn gT s9 gl ∧ keepS gs 1 s9))) (fun u t => gq D A (mw ad kk ks.1 u.1 u.2) (mty kk) t) A
def K_s_expressionA (l : Launch) (D : va_G) (ks : KS) (dd : Nat) : Prop := ∀ (sz : Nat) (ad : Nat → Nat) (kk : Nat → ClassId) (V : Vf) (L : Lf) (bq : Nat) (gn : Nat) (gT : Tk) (gs : St) (gl : List Int64) (gd : Nat) (hMV : rgd bM V) (rel : RelM V L bq gn gT gs gl) (c1 : (V 0 48).toInt ≤ 2 * (V 0 7).toInt) (yd : (V 0 50).toInt = (gd : Int)) (c4 : (V 0 50).toInt + (dd : Int) = 8) (em : EM V gs) , Met l yX12_expression (Cond.code yX12_expression cX12_expression 3 none :: GW) (rK 13 420 dd) (va_Pc [.ref (ad 0)] (gp D ks (mw ad kk ks.1 V L) (mty kk) sz)) (q_s_expressionA D ks ad kk V L  bq gn gT gs gl gd (va_A (mw ad kk ks.1 V L) sz)) 0 0 (va_A (mw ad kk ks.1 V L) sz)
abbrev q_s_sumA (D : va_G) (ks : KS) (ad : Nat → Nat) (kk : Nat → ClassId) (V : Vf) (L : Lf) (bq : Nat) (gn : Nat) (gT : Tk) (gs : St) (gl : List Int64) (gd : Nat) (A : Nat → Prop) : Array Value → State → Outcome → State → Prop := va_Qv (fun (u : Vf × Lf) => rgd bM u.1 ∧ agr [(0, 7), (0, 8), (0, 48), (0, 50)] [35, 36, 37, 38, 45, 46, 47] V u.1 ∧ agL [35, 36, 37, 38, 45, 46, 47] L u.2 ∧ (Imp ((u.1 0 8).toInt = 0) ((u.1 0 48).toInt - (V 0 48).toInt ≤ 2 * ((u.1 0 7).toInt - (V 0 7).toInt))) ∧ ((u.1 0 48).toInt ≤ 8050 - 6 * (V 0 50).toInt) ∧ ((u.1 0 50).toInt = (V 0 50).toInt) ∧ ((V 0 48).toInt ≤ (u.1 0 48).toInt) ∧ (RdM gT gs (fun k => Isum gd :: k) (fun k => k) (u.1 0 8).toInt (fun s9 => RelM u.1 u.2 bq gn gT s9 gl ∧ keepS gs 1 s9))) (fun u t => gq D A (mw ad kk ks.1 u.1 u.2) (mty kk) t) A
def K_s_sumA (l : Launch) (D : va_G) (ks : KS) (dd : Nat) : Prop := ∀ (sz : Nat) (ad : Nat → Nat) (kk : Nat → ClassId) (V : Vf) (L : Lf) (bq : Nat) (gn : Nat) (gT : Tk) (gs : St) (gl : List Int64) (gd : Nat) (hMV : rgd bM V) (rel : RelM V L bq gn gT gs gl) (c1 : (V 0 48).toInt ≤ 2 * (V 0 7).toInt) (yd : (V 0 50).toInt = (gd : Int)) (c4 : (V 0 50).toInt + (dd : Int) = 8) (em : EM V gs) , Met l yX12_sum (Cond.code yX12_sum cX12_sum 3 none :: GW) (rK 12 380 dd) (va_Pc [.ref (ad 0)] (gp D ks (mw ad kk ks.1 V L) (mty kk) sz)) (q_s_sumA D ks ad kk V L  bq gn gT gs gl gd (va_A (mw ad kk ks.1 V L) sz)) 0 0 (va_A (mw ad kk ks.1 V L) sz)
abbrev q_s_productA (D : va_G) (ks : KS) (ad : Nat → Nat) (kk : Nat → ClassId) (V : Vf) (L : Lf) (bq : Nat) (gn : Nat) (gT : Tk) (gs : St) (gl : List Int64) (gd : Nat) (A : Nat → Prop) : Array Value → State → Outcome → State → Prop := va_Qv (fun (u : Vf × Lf) => rgd bM u.1 ∧ agr [(0, 7), (0, 8), (0, 48), (0, 50)] [35, 36, 37, 38, 45, 46, 47] V u.1 ∧ agL [35, 36, 37, 38, 45, 46, 47] L u.2 ∧ (Imp ((u.1 0 8).toInt = 0) ((u.1 0 48).toInt - (V 0 48).toInt ≤ 2 * ((u.1 0 7).toInt - (V 0 7).toInt))) ∧ ((u.1 0 48).toInt ≤ 8049 - 6 * (V 0 50).toInt) ∧ ((u.1 0 50).toInt = (V 0 50).toInt) ∧ ((V 0 48).toInt ≤ (u.1 0 48).toInt) ∧ (RdM gT gs (fun k => Iprod gd :: k) (fun k => k) (u.1 0 8).toInt (fun s9 => RelM u.1 u.2 bq gn gT s9 gl ∧ keepS gs 1 s9))) (fun u t => gq D A (mw ad kk ks.1 u.1 u.2) (mty kk) t) A
def K_s_productA (l : Launch) (D : va_G) (ks : KS) (dd : Nat) : Prop := ∀ (sz : Nat) (ad : Nat → Nat) (kk : Nat → ClassId) (V : Vf) (L : Lf) (bq : Nat) (gn : Nat) (gT : Tk) (gs : St) (gl : List Int64) (gd : Nat) (hMV : rgd bM V) (rel : RelM V L bq gn gT gs gl) (c1 : (V 0 48).toInt ≤ 2 * (V 0 7).toInt) (yd : (V 0 50).toInt = (gd : Int)) (c4 : (V 0 50).toInt + (dd : Int) = 8) (em : EM V gs) , Met l yX12_product (Cond.code yX12_product cX12_product 2 none :: GW) (rK 11 340 dd) (va_Pc [.ref (ad 0)] (gp D ks (mw ad kk ks.1 V L) (mty kk) sz)) (q_s_productA D ks ad kk V L  bq gn gT gs gl gd (va_A (mw ad kk ks.1 V L) sz)) 0 0 (va_A (mw ad kk ks.1 V L) sz)
abbrev q_s_partA (D : va_G) (ks : KS) (ad : Nat → Nat) (kk : Nat → ClassId) (V : Vf) (L : Lf) (bq : Nat) (gn : Nat) (gT : Tk) (gs : St) (gl : List Int64) (gd : Nat) (A : Nat → Prop) : Array Value → State → Outcome → State → Prop := va_Qv (fun (u : Vf × Lf) => rgd bM u.1 ∧ agr [(0, 7), (0, 8), (0, 48), (0, 50)] [35, 36, 37, 38, 45, 46, 47] V u.1 ∧ agL [35, 36, 37, 38, 45, 46, 47] L u.2 ∧ (Imp ((u.1 0 8).toInt = 0) ((u.1 0 48).toInt - (V 0 48).toInt ≤ 2 * ((u.1 0 7).toInt - (V 0 7).toInt))) ∧ ((u.1 0 48).toInt ≤ 8048 - 6 * (V 0 50).toInt) ∧ ((u.1 0 50).toInt = (V 0 50).toInt) ∧ ((V 0 48).toInt ≤ (u.1 0 48).toInt) ∧ (RdM gT gs (fun k => Ipart gd :: k) (fun k => k) (u.1 0 8).toInt (fun s9 => RelM u.1 u.2 bq gn gT s9 gl ∧ keepS gs 1 s9))) (fun u t => gq D A (mw ad kk ks.1 u.1 u.2) (mty kk) t) A
def K_s_partA (l : Launch) (D : va_G) (ks : KS) (dd : Nat) : Prop := ∀ (sz : Nat) (ad : Nat → Nat) (kk : Nat → ClassId) (V : Vf) (L : Lf) (bq : Nat) (gn : Nat) (gT : Tk) (gs : St) (gl : List Int64) (gd : Nat) (hMV : rgd bM V) (rel : RelM V L bq gn gT gs gl) (c1 : (V 0 48).toInt ≤ 2 * (V 0 7).toInt) (yd : (V 0 50).toInt = (gd : Int)) (c4 : (V 0 50).toInt + (dd : Int) = 8) (em : EM V gs) , Met l yX12_part (Cond.code yX12_part cX12_part 2 none :: GW) (rK 10 300 dd) (va_Pc [.ref (ad 0)] (gp D ks (mw ad kk ks.1 V L) (mty kk) sz)) (q_s_partA D ks ad kk V L  bq gn gT gs gl gd (va_A (mw ad kk ks.1 V L) sz)) 0 0 (va_A (mw ad kk ks.1 V L) sz)
abbrev q_s_bracketedA (D : va_G) (ks : KS) (ad : Nat → Nat) (kk : Nat → ClassId) (V : Vf) (L : Lf) (bq : Nat) (gn : Nat) (gT : Tk) (gs : St) (gl : List Int64) (gd : Nat) (A : Nat → Prop) : Array Value → State → Outcome → State → Prop := va_Qv (fun (u : Vf × Lf) => rgd bM u.1 ∧ agr [(0, 7), (0, 8), (0, 48), (0, 50)] [35, 36, 37, 38, 45, 46, 47] V u.1 ∧ agL [35, 36, 37, 38, 45, 46, 47] L u.2 ∧ (Imp ((u.1 0 8).toInt = 0) ((u.1 0 48).toInt - (V 0 48).toInt ≤ 2 * ((u.1 0 7).toInt - (V 0 7).toInt))) ∧ ((u.1 0 48).toInt ≤ 8052 - 6 * (V 0 50).toInt) ∧ ((u.1 0 50).toInt = (V 0 50).toInt) ∧ ((V 0 48).toInt ≤ (u.1 0 48).toInt) ∧ (RdM gT gs (fun k => Itake 40 :: Iexpr gd :: Itake 41 :: k) (fun k => k) (u.1 0 8).toInt (fun s9 => RelM u.1 u.2 bq gn gT s9 gl ∧ keepS gs 1 s9))) (fun u t => gq D A (mw ad kk ks.1 u.1 u.2) (mty kk) t) A
def K_s_bracketedA (l : Launch) (D : va_G) (ks : KS) (dd : Nat) : Prop := ∀ (sz : Nat) (ad : Nat → Nat) (kk : Nat → ClassId) (V : Vf) (L : Lf) (bq : Nat) (gn : Nat) (gT : Tk) (gs : St) (gl : List Int64) (gd : Nat) (hMV : rgd bM V) (rel : RelM V L bq gn gT gs gl) (c1 : (V 0 48).toInt ≤ 2 * (V 0 7).toInt) (yd : (V 0 50).toInt = (gd : Int)) (c4 : (V 0 50).toInt + (dd : Int) = 8) (em : EM V gs) , Met l yX12_bracketed (Cond.code yX12_bracketed cX12_bracketed 1 none :: GW) (rK 14 460 dd) (va_Pc [.ref (ad 0)] (gp D ks (mw ad kk ks.1 V L) (mty kk) sz)) (q_s_bracketedA D ks ad kk V L  bq gn gT gs gl gd (va_A (mw ad kk ks.1 V L) sz)) 0 0 (va_A (mw ad kk ks.1 V L) sz)
abbrev q_s_pickA (D : va_G) (ks : KS) (ad : Nat → Nat) (kk : Nat → ClassId) (V : Vf) (L : Lf) (bq : Nat) (gn : Nat) (gT : Tk) (gs : St) (gl : List Int64) (gd : Nat) (A : Nat → Prop) : Array Value → State → Outcome → State → Prop := va_Qv (fun (u : Vf × Lf) => rgd bM u.1 ∧ agr [(0, 7), (0, 8), (0, 48), (0, 50)] [35, 36, 37, 38, 45, 46, 47] V u.1 ∧ agL [35, 36, 37, 38, 45, 46, 47] L u.2 ∧ (Imp ((u.1 0 8).toInt = 0) ((u.1 0 48).toInt - (V 0 48).toInt ≤ 2 * ((u.1 0 7).toInt - (V 0 7).toInt))) ∧ ((u.1 0 48).toInt ≤ 8053 - 6 * (V 0 50).toInt) ∧ ((u.1 0 50).toInt = (V 0 50).toInt) ∧ ((V 0 48).toInt ≤ (u.1 0 48).toInt) ∧ (RdM gT gs (fun k => Itake 40 :: Iexpr gd :: Itake 44 :: Iexpr gd :: Itake 44 :: Iexpr gd :: Itake 41 :: k) (fun k => k) (u.1 0 8).toInt (fun s9 => RelM u.1 u.2 bq gn gT s9 gl ∧ keepS gs 1 s9))) (fun u t => gq D A (mw ad kk ks.1 u.1 u.2) (mty kk) t) A
def K_s_pickA (l : Launch) (D : va_G) (ks : KS) (dd : Nat) : Prop := ∀ (sz : Nat) (ad : Nat → Nat) (kk : Nat → ClassId) (V : Vf) (L : Lf) (bq : Nat) (gn : Nat) (gT : Tk) (gs : St) (gl : List Int64) (gd : Nat) (hMV : rgd bM V) (rel : RelM V L bq gn gT gs gl) (c1 : (V 0 48).toInt ≤ 2 * (V 0 7).toInt) (yd : (V 0 50).toInt = (gd : Int)) (c4 : (V 0 50).toInt + (dd : Int) = 8) (em : EM V gs) , Met l yX12_pick (Cond.code yX12_pick cX12_pick 3 none :: GW) (rK 14 460 dd) (va_Pc [.ref (ad 0)] (gp D ks (mw ad kk ks.1 V L) (mty kk) sz)) (q_s_pickA D ks ad kk V L  bq gn gT gs gl gd (va_A (mw ad kk ks.1 V L) sz)) 0 0 (va_A (mw ad kk ks.1 V L) sz)
abbrev q_s_partWithinA (D : va_G) (ks : KS) (ad : Nat → Nat) (kk : Nat → ClassId) (V : Vf) (L : Lf) (bq : Nat) (gn : Nat) (gT : Tk) (gs : St) (gl : List Int64) (gd : Nat) (A : Nat → Prop) : Array Value → State → Outcome → State → Prop := va_Qv (fun (u : Vf × Lf) => rgd bM u.1 ∧ agr [(0, 7), (0, 8), (0, 48), (0, 50)] [35, 36, 37, 38, 45, 46, 47] V u.1 ∧ agL [35, 36, 37, 38, 45, 46, 47] L u.2 ∧ (Imp ((u.1 0 8).toInt = 0) ((u.1 0 48).toInt - (V 0 48).toInt + 1 ≤ 2 * ((u.1 0 7).toInt - (V 0 7).toInt))) ∧ ((u.1 0 48).toInt ≤ 8054 - 6 * (V 0 50).toInt) ∧ ((u.1 0 50).toInt = (V 0 50).toInt) ∧ ((V 0 48).toInt ≤ (u.1 0 48).toInt) ∧ (RdM gT gs (fun k => Ipart gd :: k) (fun k => k) (u.1 0 8).toInt (fun s9 => RelM u.1 u.2 bq gn gT s9 gl ∧ keepS gs 1 s9))) (fun u t => gq D A (mw ad kk ks.1 u.1 u.2) (mty kk) t) A
def K_s_partWithinA (l : Launch) (D : va_G) (ks : KS) (dd : Nat) : Prop := ∀ (sz : Nat) (ad : Nat → Nat) (kk : Nat → ClassId) (V : Vf) (L : Lf) (bq : Nat) (gn : Nat) (gT : Tk) (gs : St) (gl : List Int64) (gd : Nat) (hMV : rgd bM V) (rel : RelM V L bq gn gT gs gl) (c1 : (V 0 48).toInt ≤ 2 * (V 0 7).toInt + 1) (yd : (V 0 50).toInt = (gd : Int) + 1) (g8 : (gd : Int) ≤ 7) (bg : bgP gT gs) (c4 : (V 0 50).toInt + (dd : Int) = 8) (em : EM V gs) , Met l yX12_partWithin (Cond.code yX12_partWithin cX12_partWithin 4 none :: GW) (rK 15 500 dd) (va_Pc [.ref (ad 0)] (gp D ks (mw ad kk ks.1 V L) (mty kk) sz)) (q_s_partWithinA D ks ad kk V L  bq gn gT gs gl gd (va_A (mw ad kk ks.1 V L) sz)) 0 0 (va_A (mw ad kk ks.1 V L) sz)
set_option maxHeartbeats 4000000 in
set_option maxRecDepth 100000 in
theorem s_expressionA {l : Launch} {D : va_G} {ks : KS} {dd : Nat} (hk_s_sumA : K_s_sumA l D ks dd) : K_s_expressionA l D ks dd := by
  intro sz ad kk V L  bq gn gT gs gl gd hMV rel c1 yd c4 em
  refine g_met (q_s_expressionA D ks ad kk V L  bq gn gT gs gl gd) (by decide) (Nat.le_of_ble_eq_true rfl) ?_
  intro p e s m below meth c A ls H locs hx hb hr hml hown hg hlocks hin hnw hgk hP hK hD hS hA hl
  have hown : s.vm.findClass RX12 = some m.cls := hown
  have hl : lv_has ls 3 [(0, .ref (ad 0))] := hl
  have hP : va_P D vwCl (mw ad kk ks.1 V L) H := hP
  have hD : va_D A (mw ad kk ks.1 V L) := hD
  have hK : va_K D vwCl (mty kk) s := hK
  have agV : agr [(0, 7), (0, 8), (0, 48), (0, 50)] [35, 36, 37, 38, 45, 46, 47] V V := agr.rf
  have alL : agL [35, 36, 37, 38, 45, 46, 47] L L := agL.rf
  have r1 : 0 ≤ ((V 0 48)).toInt ∧ ((V 0 48)).toInt ≤ 10000 := hMV 0 48
  have r2 : 0 ≤ ((V 0 50)).toInt ∧ ((V 0 50)).toInt ≤ 9 := hMV 0 50
  have rg0 := RelM.rg rel
  have cl0 := RelM.cl rel
  have cq0 := RelM.cq rel
  refine lv_aload_n hx hb dX12_expression_0 rfl (lv_at hl 0 rfl) ?_
  have hr3 : ∀ k, Rc gT (Crun gs (Iexpr gd :: k)) (Crun gs (Iexpr gd :: k)) := fun k => Rc.rf
  have hr4 : ∀ k, Rc gT (Crun gs (Iexpr gd :: k)) (Crun gs (Isum gd :: Icmp gd :: k)) := fun k => Rc.go1 (hr3 k) (m_expr gd)
  refine gA_void (gA_runV (As := []) (rest := []) (ci := 12) (q0 := 0) hx hb hml hown hg hP hD hK hS hA hnw hgk (hk_s_sumA H.size ad kk V L (bq) (gn) (gT) (gs) (gl) (gd) hMV rel (show (V 0 48).toInt ≤ 2 * (V 0 7).toInt from by omega) (show (V 0 50).toInt = ((gd) : Int) from by omega) (show (V 0 50).toInt + (dd : Int) = 8 from by omega) em) w2120 w2122 w107 w172 w2123 rfl rfl hdV_yX12_sum ⟨(by show 10 * dd + 12 + 1 ≤ 10 * dd + 13; omega), (by show 8 + (3 + 11) + (300 * dd + 380) ≤ 300 * dd + 420; omega)⟩ rfl hl.1 rfl (Nat.le_of_ble_eq_true rfl) dX12_expression_1 ⟨Nat.le_of_ble_eq_true rfl, Nat.le_of_ble_eq_true rfl⟩) hP hD hK hS hA (fun u6 H locs w7 hP hD hK hS => ?_)
  obtain ⟨V13, L14⟩ := u6
  obtain ⟨hMV13, ajV13, axL14, t8, t9, t10, t11, t12⟩ := w7
  have alL14 : agL [35, 36, 37, 38, 45, 46, 47] L L14 := agL.tr alL axL14 (by decide)
  have hP : va_P D vwCl (mw ad kk ks.1 V13 L14) H := hP
  have hD : va_D A (mw ad kk ks.1 V13 L14) := hD
  have hMV13 : rgd bM V13 := hMV13
  have ajV13 : agr [(0, 7), (0, 8), (0, 48), (0, 50)] [35, 36, 37, 38, 45, 46, 47] V V13 := ajV13
  have agV13 : agr [(0, 7), (0, 8), (0, 48), (0, 50)] [35, 36, 37, 38, 45, 46, 47] V V13 := agV.tr ajV13 (by decide) (by decide)
  have t8 : Imp ((V13 0 8).toInt = 0) ((V13 0 48).toInt - (V 0 48).toInt ≤ 2 * ((V13 0 7).toInt - (V 0 7).toInt)) := t8
  have t9 : (V13 0 48).toInt ≤ 8050 - 6 * (V 0 50).toInt := t9
  have t10 : (V13 0 50).toInt = (V 0 50).toInt := t10
  have t11 : (V 0 48).toInt ≤ (V13 0 48).toInt := t11
  have t12 : RdM (gT) (gs) (fun k => Isum (gd) :: k) (fun k => k) (V13 0 8).toInt (fun s9 => RelM V13 L14 (bq) (gn) (gT) s9 (gl) ∧ keepS (gs) 1 s9) := t12
  have r15 : 0 ≤ ((V13 0 48)).toInt ∧ ((V13 0 48)).toInt ≤ 10000 := hMV13 0 48
  have r16 : 0 ≤ ((V13 0 8)).toInt ∧ ((V13 0 8)).toInt ≤ 70000 := hMV13 0 8
  have r17 : 0 ≤ ((V13 0 50)).toInt ∧ ((V13 0 50)).toInt ≤ 9 := hMV13 0 50
  rcases t12 with ⟨q18, sx19, h20, rl21, kp22⟩ | ⟨q18, h20⟩
  · skip
    have hr23 : ∀ k, Rc gT (Crun gs (Iexpr gd :: k)) (Crun sx19 (Icmp gd :: k)) := fun k => (hr4 k).tr (h20 (Icmp gd :: k))
    have fz24 := RelM.rg rl21
    have ps25 := (kp22).1
    refine lv_aload_n hx hb dX12_expression_4 rfl (lv_at hl 0 rfl) ?_
    refine lv_bipush (v := 60) hx hb dX12_expression_5 (by decide) ?_
    have r26 : Int32.toInt 60 = 60 := by decide
    refine gA_int (gA_runV (As := [.int 60]) (rest := []) (ci := 12) (q0 := 0) hx hb hml hown hg hP hD hK hS hA hnw hgk (s_isSignA l D ks H.size ad kk V13 L14 60 (bq) (gn) (gT) (sx19) (gl) hMV13 rl21 (sg_yes (j := 60) (by decide) (by decide) (by decide))) w2071 w2073 w95 w172 w2074 rfl rfl hdV_yX12_isSign ⟨(by show 0 + 1 ≤ 10 * dd + 13; omega), (by show 8 + (2 + 11) + (0) ≤ 300 * dd + 420; omega)⟩ rfl hl.1 rfl (Nat.le_of_ble_eq_true rfl) dX12_expression_7 ⟨Nat.le_of_ble_eq_true rfl, Nat.le_of_ble_eq_true rfl⟩) hP hD hK hS hA (fun z27 u28 H locs w29 hP hD hK hS => ?_)
    obtain ⟨rgz27, t30⟩ := w29
    have rgz27 : 0 ≤ z27.toInt ∧ z27.toInt ≤ 1 := rgz27
    have t30 : (z27.toInt = 1 ∧ (gT).1 ((sx19).1 0) = (Int32.toInt 60)) ∨ (z27.toInt = 0 ∧ (gT).1 ((sx19).1 0) ≠ (Int32.toInt 60)) := t30
    rcases t30 with ⟨q31, h32⟩ | ⟨q31, h32⟩
    · skip
      have kd33 : gT.1 (sx19.1 0) = 60 := h32.trans (by decide)
      refine lv_istore_n (lv' := [(1, .int z27), (0, .ref (ad 0))]) hx hb dX12_expression_10 rfl hl (by decide) rfl (fun ls hl => ?_)
      refine lv_iload_n hx hb dX12_expression_11 rfl (lv_at hl 0 rfl) ?_
      refine lv_if_ne (tgt := 24) hx hb dX12_expression_12 (by decide) (fun c34 => ?_) (fun c34 => ?_)
      · skip
        have f35 : z27.toInt ≠ 0 := b_neq rfl (by decide) c34
        refine lv_aload_n hx hb dX12_expression_24 rfl (lv_at hl 1 rfl) ?_
        refine lv_dup hx hb dX12_expression_25 rfl ?_
        refine va_get (D := D) (ci := 12) (v := .int (V13 0 7)) (C := RX12) (T := TX12) (N := 100) hx hb hg inX12 hown hK hP 0 rfl rfl 7 (by decide) (hg _ w1713) (fun _ h9 => h9) rfl dX12_expression_26 ?_
        refine lv_iconst (v := 1) hx hb dX12_expression_29 (by decide) ?_
        refine lv_iadd hx hb dX12_expression_30 ?_
        refine lv_topi (fun z36 ez36 => ?_)
        have hz36 : z36.toInt = ((V13 0 7)).toInt + 1 := i_add ez36 rfl (by decide) (by omega)
        refine va_put (D := D) (ci := 12) (v := .int z36) (ty := tyX12 7) (C := RX12) (T := TX12) (N := 100) hx hb hg inX12 tyX12 tyX12_ok nmX12 hown hK hP hD hS 0 rfl rfl 7 (by decide) (hg _ w1713) (fun _ h9 => h9) rfl (tyX12_ok 7 (by decide)) rfl rfl (Nat.le_of_ble_eq_true rfl) dX12_expression_31 (fun H locs hP hD hS => ?_)
        obtain ⟨V37, hV37⟩ : ∃ z, z = up2 V13 0 7 z36 := ⟨_, rfl⟩
        have hP : va_P D vwCl (mw ad kk ks.1 V37 L14) H := by rw [hV37]; exact hP
        have hD : va_D A (mw ad kk ks.1 V37 L14) := by rw [hV37]; exact hD
        have hMV37 : rgd bM V37 := hMV13.put hV37 (i_full _)
        have agV37 : agr [(0, 7), (0, 8), (0, 48), (0, 50)] [35, 36, 37, 38, 45, 46, 47] V V37 := agV13.up hV37 rfl
        have hr38 : ∀ k, Rc gT (Crun gs (Iexpr gd :: k)) (Crun (nx sx19 1) (Isum gd :: k)) := fun k => Rc.go1 (hr23 k) (cmp_y gd (Or.inl kd33))
        have rl39 : RelM V37 L14 bq gn gT (nx sx19 1) gl := RelM.n1 rl21 hV37 (by omega) (by rw [kd33]; decide)
        have ps40 : (nx sx19 1).1 0 = sx19.1 0 + 1 := rfl
        have fz41 := RelM.rg rl39
        have pq42 : (V37 0 8).toInt = ((V13 0 8)).toInt := congrArg Int32.toInt (up2_k hV37 (by decide))
        have pq43 : (V37 0 7).toInt = z36.toInt := congrArg Int32.toInt (up2_s hV37)
        refine lv_aload_n hx hb dX12_expression_34 rfl (lv_at hl 1 rfl) ?_
        have pq44 : (V37 0 48).toInt = ((V13 0 48)).toInt := congrArg Int32.toInt (up2_k hV37 (by decide))
        have pq45 : (V37 0 50).toInt = ((V13 0 50)).toInt := congrArg Int32.toInt (up2_k hV37 (by decide))
        refine gA_void (gA_runV (As := []) (rest := []) (ci := 12) (q0 := 0) hx hb hml hown hg hP hD hK hS hA hnw hgk (hk_s_sumA H.size ad kk V37 L14 (bq) (gn) (gT) ((nx sx19 1)) (gl) (gd) hMV37 rl39 (show (V37 0 48).toInt ≤ 2 * (V37 0 7).toInt from by first | omega | ((try (have i_t8 := Imp.go t8 (by omega))); omega)) (show (V37 0 50).toInt = ((gd) : Int) from by first | omega | ((try (have i_t8 := Imp.go t8 (by omega))); omega)) (show (V37 0 50).toInt + (dd : Int) = 8 from by first | omega | ((try (have i_t8 := Imp.go t8 (by omega))); omega)) (EM.mv em ((up2_k hV37 (by decide)).trans (ajV13 0 51 rfl)) ((up2_k hV37 (by decide)).trans (ajV13 0 52 rfl)) (by rw [(up2_fo hV37 (by decide) : V37 27 = V13 27), (funext (fun q => ajV13 27 q rfl) : V13 27 = V 27)] : V37 27 = V 27) ((keepS.tr (keepS.tr (keepS.rf : keepS gs 0 gs) kp22) (keepS.n1 1))).2.1)) w2120 w2122 w107 w172 w2123 rfl rfl hdV_yX12_sum ⟨(by show 10 * dd + 12 + 1 ≤ 10 * dd + 13; omega), (by show 8 + (3 + 11) + (300 * dd + 380) ≤ 300 * dd + 420; omega)⟩ rfl hl.1 rfl (Nat.le_of_ble_eq_true rfl) dX12_expression_35 ⟨Nat.le_of_ble_eq_true rfl, Nat.le_of_ble_eq_true rfl⟩) hP hD hK hS hA (fun u47 H locs w48 hP hD hK hS => ?_)
        obtain ⟨V54, L55⟩ := u47
        obtain ⟨hMV54, ajV54, axL55, t49, t50, t51, t52, t53⟩ := w48
        have alL55 : agL [35, 36, 37, 38, 45, 46, 47] L L55 := agL.tr alL14 axL55 (by decide)
        have hP : va_P D vwCl (mw ad kk ks.1 V54 L55) H := hP
        have hD : va_D A (mw ad kk ks.1 V54 L55) := hD
        have hMV54 : rgd bM V54 := hMV54
        have ajV54 : agr [(0, 7), (0, 8), (0, 48), (0, 50)] [35, 36, 37, 38, 45, 46, 47] V37 V54 := ajV54
        have agV54 : agr [(0, 7), (0, 8), (0, 48), (0, 50)] [35, 36, 37, 38, 45, 46, 47] V V54 := agV37.tr ajV54 (by decide) (by decide)
        have t49 : Imp ((V54 0 8).toInt = 0) ((V54 0 48).toInt - (V37 0 48).toInt ≤ 2 * ((V54 0 7).toInt - (V37 0 7).toInt)) := t49
        have t50 : (V54 0 48).toInt ≤ 8050 - 6 * (V37 0 50).toInt := t50
        have t51 : (V54 0 50).toInt = (V37 0 50).toInt := t51
        have t52 : (V37 0 48).toInt ≤ (V54 0 48).toInt := t52
        have t53 : RdM (gT) ((nx sx19 1)) (fun k => Isum (gd) :: k) (fun k => k) (V54 0 8).toInt (fun s9 => RelM V54 L55 (bq) (gn) (gT) s9 (gl) ∧ keepS ((nx sx19 1)) 1 s9) := t53
        have r56 : 0 ≤ ((V54 0 48)).toInt ∧ ((V54 0 48)).toInt ≤ 10000 := hMV54 0 48
        have r57 : 0 ≤ ((V54 0 8)).toInt ∧ ((V54 0 8)).toInt ≤ 70000 := hMV54 0 8
        have r58 : 0 ≤ ((V54 0 50)).toInt ∧ ((V54 0 50)).toInt ≤ 9 := hMV54 0 50
        rcases t53 with ⟨q59, sx60, h61, rl62, kp63⟩ | ⟨q59, h61⟩
        · skip
          have hr64 : ∀ k, Rc gT (Crun gs (Iexpr gd :: k)) (Crun sx60 (k)) := fun k => (hr38 k).tr (h61 (k))
          have fz65 := RelM.rg rl62
          have ps66 := (kp63).1
          refine lv_aload_n hx hb dX12_expression_38 rfl (lv_at hl 1 rfl) ?_
          refine lv_iload_n hx hb dX12_expression_39 rfl (lv_at hl 0 rfl) ?_
          refine lv_if_eq (tgt := 48) hx hb dX12_expression_40 (by decide) (fun c67 => ?_) (fun c67 => ?_)
          · skip
            have f68 : z27.toInt = 0 := b_eq rfl (by decide) c67
            exfalso; first | omega | ((try (have i_t49 := Imp.go t49 (by omega))); (try (have i_t8 := Imp.go t8 (by omega))); (try (have i_t8 := Imp.go t8 (by omega))); (try (have i_t49 := Imp.go t49 (by omega))); omega)
          · skip
            have f69 : z27.toInt ≠ 0 := b_neq rfl (by decide) c67
            refine lv_bipush (v := 8) hx hb dX12_expression_43 (by decide) ?_
            refine lv_goto (tgt := 50) hx hb dX12_expression_45 (by decide) ?_
            refine lv_iconst (v := 0) hx hb dX12_expression_50 (by decide) ?_
            refine lv_iconst (v := 0) hx hb dX12_expression_51 (by decide) ?_
            have r70 : Int32.toInt 8 = 8 := by decide
            have r71 : Int32.toInt 0 = 0 := by decide
            refine gA_int (gA_runV (As := [.int 8, .int 0, .int 0]) (rest := []) (ci := 12) (q0 := 0) hx hb hml hown hg hP hD hK hS hA hnw hgk (s_emit3 l D ks H.size ad kk V54 L55 8 0 0 hMV54 (show (V54 0 48).toInt ≤ 9999 from by first | omega | ((try (have i_t49 := Imp.go t49 (by omega))); (try (have i_t8 := Imp.go t8 (by omega))); (try (have i_t8 := Imp.go t8 (by omega))); (try (have i_t49 := Imp.go t49 (by omega))); omega))) w2136 w2138 w111 w172 w2139 rfl rfl hdV_yX12_emit ⟨(by show 0 + 1 ≤ 10 * dd + 13; omega), (by show 8 + (4 + 11) + (0) ≤ 300 * dd + 420; omega)⟩ rfl hl.1 rfl (Nat.le_of_ble_eq_true rfl) dX12_expression_52 ⟨Nat.le_of_ble_eq_true rfl, Nat.le_of_ble_eq_true rfl⟩) hP hD hK hS hA (fun z72 u73 H locs w74 hP hD hK hS => ?_)
            obtain ⟨V78, L79⟩ := u73
            obtain ⟨hMV78, ajV78, axL79, rgz72, t75, t76, t77⟩ := w74
            have axL79 : L55 = L79 := Eq.symm axL79
            subst axL79
            have hP : va_P D vwCl (mw ad kk ks.1 V78 L55) H := hP
            have hD : va_D A (mw ad kk ks.1 V78 L55) := hD
            have hMV78 : rgd bM V78 := hMV78
            have ajV78 : agr [(0, 48)] [45, 46, 47] V54 V78 := ajV78
            have agV78 : agr [(0, 7), (0, 8), (0, 48), (0, 50)] [35, 36, 37, 38, 45, 46, 47] V V78 := agV54.tr ajV78 (by decide) (by decide)
            have rgz72 : 0 ≤ z72.toInt ∧ z72.toInt ≤ 20000 := rgz72
            have t75 : (V78 0 48).toInt = (V54 0 48).toInt + 1 := t75
            have t76 : z72.toInt = (V54 0 49).toInt + (V54 0 48).toInt := t76
            have t77 : emitted V54 V78 (pA V54) 8 0 0 := t77
            have r80 : 0 ≤ ((V78 0 48)).toInt ∧ ((V78 0 48)).toInt ≤ 10000 := hMV78 0 48
            have pq81 : (V54 0 49).toInt = ((V 0 49)).toInt := congrArg Int32.toInt ((ajV54 0 49 rfl).trans ((up2_k hV37 (by decide)).trans (ajV13 0 49 rfl)))
            have r82 : 0 ≤ ((V 0 49)).toInt ∧ ((V 0 49)).toInt ≤ 10000 := hMV 0 49
            refine lv_istore_n (lv' := [(2, .int z72), (1, .int z27), (0, .ref (ad 0))]) hx hb dX12_expression_55 rfl hl (by decide) rfl (fun ls hl => ?_)
            have pq83 : (V78 0 7).toInt = ((V54 0 7)).toInt := congrArg Int32.toInt (ajV78 0 7 rfl)
            have pq84 : (V78 0 8).toInt = ((V54 0 8)).toInt := congrArg Int32.toInt (ajV78 0 8 rfl)
            have pq85 : (V78 0 50).toInt = ((V54 0 50)).toInt := congrArg Int32.toInt (ajV78 0 50 rfl)
            have rl86 : RelM V78 L55 bq gn gT sx60 gl := RelM.ag rl62 (show agr [(0, 48)] [45, 46, 47] V54 V78 from (agr.tr agr.rf ajV78 (by decide) (by decide))) (by decide) (show agL [] L55 L55 from agL.rf) (by decide)
            exact W.vret hx hb hr (fun t ht hW => ⟨⟨(V78, L55), rfl, ⟨hMV78, agV78, alL55, (Imp.mk (fun hp => have hp : (V78 0 8).toInt = 0 := hp; (show (V78 0 48).toInt - (V 0 48).toInt ≤ 2 * ((V78 0 7).toInt - (V 0 7).toInt) from by first | omega | ((try (have i_t49 := Imp.go t49 (by omega))); (try (have i_t8 := Imp.go t8 (by omega))); (try (have i_t8 := Imp.go t8 (by omega))); (try (have i_t49 := Imp.go t49 (by omega))); omega)))), (show (V78 0 48).toInt ≤ 8051 - 6 * (V 0 50).toInt from by first | omega | ((try (have i_t49 := Imp.go t49 (by omega))); (try (have i_t8 := Imp.go t8 (by omega))); (try (have i_t8 := Imp.go t8 (by omega))); (try (have i_t49 := Imp.go t49 (by omega))); omega)), (show (V78 0 50).toInt = (V 0 50).toInt from by first | omega | ((try (have i_t49 := Imp.go t49 (by omega))); (try (have i_t8 := Imp.go t8 (by omega))); (try (have i_t8 := Imp.go t8 (by omega))); (try (have i_t49 := Imp.go t49 (by omega))); omega)), (show (V 0 48).toInt ≤ (V78 0 48).toInt from by first | omega | ((try (have i_t49 := Imp.go t49 (by omega))); (try (have i_t8 := Imp.go t8 (by omega))); (try (have i_t8 := Imp.go t8 (by omega))); (try (have i_t49 := Imp.go t49 (by omega))); omega)), (Or.inl ⟨W0 rl86, sx60, hr64, rl86, keepS.le (keepS.tr (keepS.tr (keepS.tr (keepS.rf : keepS gs 0 gs) kp22) (keepS.n1 1)) kp63) (by decide)⟩)⟩, by rw [ht]; exact hP, va_K.moved hW.alike hK, hD⟩, hS.F ht⟩) hS.2.2 dX12_expression_56
        · skip
          have hb87 : ∀ k, Rc gT (Crun gs (Iexpr gd :: k)) (Cbad (V54 0 8).toInt) := fun k => (hr38 k).tr (h61 (k))
          refine lv_aload_n hx hb dX12_expression_38 rfl (lv_at hl 1 rfl) ?_
          refine lv_iload_n hx hb dX12_expression_39 rfl (lv_at hl 0 rfl) ?_
          refine lv_if_eq (tgt := 48) hx hb dX12_expression_40 (by decide) (fun c88 => ?_) (fun c88 => ?_)
          · skip
            have f89 : z27.toInt = 0 := b_eq rfl (by decide) c88
            exfalso; first | omega | ((try (have i_t49 := Imp.go t49 (by omega))); (try (have i_t8 := Imp.go t8 (by omega))); (try (have i_t8 := Imp.go t8 (by omega))); (try (have i_t49 := Imp.go t49 (by omega))); omega)
          · skip
            have f90 : z27.toInt ≠ 0 := b_neq rfl (by decide) c88
            refine lv_bipush (v := 8) hx hb dX12_expression_43 (by decide) ?_
            refine lv_goto (tgt := 50) hx hb dX12_expression_45 (by decide) ?_
            refine lv_iconst (v := 0) hx hb dX12_expression_50 (by decide) ?_
            refine lv_iconst (v := 0) hx hb dX12_expression_51 (by decide) ?_
            have r91 : Int32.toInt 8 = 8 := by decide
            have r92 : Int32.toInt 0 = 0 := by decide
            refine gA_int (gA_runV (As := [.int 8, .int 0, .int 0]) (rest := []) (ci := 12) (q0 := 0) hx hb hml hown hg hP hD hK hS hA hnw hgk (s_emit3 l D ks H.size ad kk V54 L55 8 0 0 hMV54 (show (V54 0 48).toInt ≤ 9999 from by first | omega | ((try (have i_t49 := Imp.go t49 (by omega))); (try (have i_t8 := Imp.go t8 (by omega))); (try (have i_t8 := Imp.go t8 (by omega))); (try (have i_t49 := Imp.go t49 (by omega))); omega))) w2136 w2138 w111 w172 w2139 rfl rfl hdV_yX12_emit ⟨(by show 0 + 1 ≤ 10 * dd + 13; omega), (by show 8 + (4 + 11) + (0) ≤ 300 * dd + 420; omega)⟩ rfl hl.1 rfl (Nat.le_of_ble_eq_true rfl) dX12_expression_52 ⟨Nat.le_of_ble_eq_true rfl, Nat.le_of_ble_eq_true rfl⟩) hP hD hK hS hA (fun z93 u94 H locs w95 hP hD hK hS => ?_)
            obtain ⟨V99, L100⟩ := u94
            obtain ⟨hMV99, ajV99, axL100, rgz93, t96, t97, t98⟩ := w95
            have axL100 : L55 = L100 := Eq.symm axL100
            subst axL100
            have hP : va_P D vwCl (mw ad kk ks.1 V99 L55) H := hP
            have hD : va_D A (mw ad kk ks.1 V99 L55) := hD
            have hMV99 : rgd bM V99 := hMV99
            have ajV99 : agr [(0, 48)] [45, 46, 47] V54 V99 := ajV99
            have agV99 : agr [(0, 7), (0, 8), (0, 48), (0, 50)] [35, 36, 37, 38, 45, 46, 47] V V99 := agV54.tr ajV99 (by decide) (by decide)
            have rgz93 : 0 ≤ z93.toInt ∧ z93.toInt ≤ 20000 := rgz93
            have t96 : (V99 0 48).toInt = (V54 0 48).toInt + 1 := t96
            have t97 : z93.toInt = (V54 0 49).toInt + (V54 0 48).toInt := t97
            have t98 : emitted V54 V99 (pA V54) 8 0 0 := t98
            have r101 : 0 ≤ ((V99 0 48)).toInt ∧ ((V99 0 48)).toInt ≤ 10000 := hMV99 0 48
            have pq102 : (V54 0 49).toInt = ((V 0 49)).toInt := congrArg Int32.toInt ((ajV54 0 49 rfl).trans ((up2_k hV37 (by decide)).trans (ajV13 0 49 rfl)))
            have r103 : 0 ≤ ((V 0 49)).toInt ∧ ((V 0 49)).toInt ≤ 10000 := hMV 0 49
            refine lv_istore_n (lv' := [(2, .int z93), (1, .int z27), (0, .ref (ad 0))]) hx hb dX12_expression_55 rfl hl (by decide) rfl (fun ls hl => ?_)
            have pq104 : (V99 0 7).toInt = ((V54 0 7)).toInt := congrArg Int32.toInt (ajV99 0 7 rfl)
            have pq105 : (V99 0 8).toInt = ((V54 0 8)).toInt := congrArg Int32.toInt (ajV99 0 8 rfl)
            have pq106 : (V99 0 50).toInt = ((V54 0 50)).toInt := congrArg Int32.toInt (ajV99 0 50 rfl)
            exact W.vret hx hb hr (fun t ht hW => ⟨⟨(V99, L55), rfl, ⟨hMV99, agV99, alL55, (Imp.mk (fun hp => have hp : (V99 0 8).toInt = 0 := hp; (show (V99 0 48).toInt - (V 0 48).toInt ≤ 2 * ((V99 0 7).toInt - (V 0 7).toInt) from by first | omega | ((try (have i_t49 := Imp.go t49 (by omega))); (try (have i_t8 := Imp.go t8 (by omega))); (try (have i_t8 := Imp.go t8 (by omega))); (try (have i_t49 := Imp.go t49 (by omega))); omega)))), (show (V99 0 48).toInt ≤ 8051 - 6 * (V 0 50).toInt from by first | omega | ((try (have i_t49 := Imp.go t49 (by omega))); (try (have i_t8 := Imp.go t8 (by omega))); (try (have i_t8 := Imp.go t8 (by omega))); (try (have i_t49 := Imp.go t49 (by omega))); omega)), (show (V99 0 50).toInt = (V 0 50).toInt from by first | omega | ((try (have i_t49 := Imp.go t49 (by omega))); (try (have i_t8 := Imp.go t8 (by omega))); (try (have i_t8 := Imp.go t8 (by omega))); (try (have i_t49 := Imp.go t49 (by omega))); omega)), (show (V 0 48).toInt ≤ (V99 0 48).toInt from by first | omega | ((try (have i_t49 := Imp.go t49 (by omega))); (try (have i_t8 := Imp.go t8 (by omega))); (try (have i_t8 := Imp.go t8 (by omega))); (try (have i_t49 := Imp.go t49 (by omega))); omega)), (Or.inr ⟨(show 1 ≤ (V99 0 8).toInt from by omega), (fun k => by rw [show (V99 0 8).toInt = (V54 0 8).toInt from by omega]; exact hb87 k)⟩)⟩, by rw [ht]; exact hP, va_K.moved hW.alike hK, hD⟩, hS.F ht⟩) hS.2.2 dX12_expression_56
      · skip
        have f107 : z27.toInt = 0 := b_eq rfl (by decide) c34
        exfalso; first | omega | ((try (have i_t8 := Imp.go t8 (by omega))); omega)
    · skip
      have kd108 : gT.1 (sx19.1 0) ≠ 60 := fun h9 => h32 (h9.trans (by decide))
      refine lv_istore_n (lv' := [(1, .int z27), (0, .ref (ad 0))]) hx hb dX12_expression_10 rfl hl (by decide) rfl (fun ls hl => ?_)
      refine lv_iload_n hx hb dX12_expression_11 rfl (lv_at hl 0 rfl) ?_
      refine lv_if_ne (tgt := 24) hx hb dX12_expression_12 (by decide) (fun c109 => ?_) (fun c109 => ?_)
      · skip
        have f110 : z27.toInt ≠ 0 := b_neq rfl (by decide) c109
        exfalso; first | omega | ((try (have i_t8 := Imp.go t8 (by omega))); omega)
      · skip
        have f111 : z27.toInt = 0 := b_eq rfl (by decide) c109
        refine lv_aload_n hx hb dX12_expression_15 rfl (lv_at hl 1 rfl) ?_
        refine lv_bipush (v := 61) hx hb dX12_expression_16 (by decide) ?_
        have r112 : Int32.toInt 61 = 61 := by decide
        refine gA_int (gA_runV (As := [.int 61]) (rest := []) (ci := 12) (q0 := 0) hx hb hml hown hg hP hD hK hS hA hnw hgk (s_isSignA l D ks H.size ad kk V13 L14 61 (bq) (gn) (gT) (sx19) (gl) hMV13 rl21 (sg_yes (j := 61) (by decide) (by decide) (by decide))) w2071 w2073 w95 w172 w2074 rfl rfl hdV_yX12_isSign ⟨(by show 0 + 1 ≤ 10 * dd + 13; omega), (by show 8 + (2 + 11) + (0) ≤ 300 * dd + 420; omega)⟩ rfl hl.1 rfl (Nat.le_of_ble_eq_true rfl) dX12_expression_18 ⟨Nat.le_of_ble_eq_true rfl, Nat.le_of_ble_eq_true rfl⟩) hP hD hK hS hA (fun z113 u114 H locs w115 hP hD hK hS => ?_)
        obtain ⟨rgz113, t116⟩ := w115
        have rgz113 : 0 ≤ z113.toInt ∧ z113.toInt ≤ 1 := rgz113
        have t116 : (z113.toInt = 1 ∧ (gT).1 ((sx19).1 0) = (Int32.toInt 61)) ∨ (z113.toInt = 0 ∧ (gT).1 ((sx19).1 0) ≠ (Int32.toInt 61)) := t116
        rcases t116 with ⟨q117, h118⟩ | ⟨q117, h118⟩
        · skip
          have kd119 : gT.1 (sx19.1 0) = 61 := h118.trans (by decide)
          refine lv_if_eq (tgt := 56) hx hb dX12_expression_21 (by decide) (fun c120 => ?_) (fun c120 => ?_)
          · skip
            have f121 : z113.toInt = 0 := b_eq rfl (by decide) c120
            exfalso; first | omega | ((try (have i_t8 := Imp.go t8 (by omega))); omega)
          · skip
            have f122 : z113.toInt ≠ 0 := b_neq rfl (by decide) c120
            refine lv_aload_n hx hb dX12_expression_24 rfl (lv_at hl 1 rfl) ?_
            refine lv_dup hx hb dX12_expression_25 rfl ?_
            refine va_get (D := D) (ci := 12) (v := .int (V13 0 7)) (C := RX12) (T := TX12) (N := 100) hx hb hg inX12 hown hK hP 0 rfl rfl 7 (by decide) (hg _ w1713) (fun _ h9 => h9) rfl dX12_expression_26 ?_
            refine lv_iconst (v := 1) hx hb dX12_expression_29 (by decide) ?_
            refine lv_iadd hx hb dX12_expression_30 ?_
            refine lv_topi (fun z123 ez123 => ?_)
            have hz123 : z123.toInt = ((V13 0 7)).toInt + 1 := i_add ez123 rfl (by decide) (by omega)
            refine va_put (D := D) (ci := 12) (v := .int z123) (ty := tyX12 7) (C := RX12) (T := TX12) (N := 100) hx hb hg inX12 tyX12 tyX12_ok nmX12 hown hK hP hD hS 0 rfl rfl 7 (by decide) (hg _ w1713) (fun _ h9 => h9) rfl (tyX12_ok 7 (by decide)) rfl rfl (Nat.le_of_ble_eq_true rfl) dX12_expression_31 (fun H locs hP hD hS => ?_)
            obtain ⟨V124, hV124⟩ : ∃ z, z = up2 V13 0 7 z123 := ⟨_, rfl⟩
            have hP : va_P D vwCl (mw ad kk ks.1 V124 L14) H := by rw [hV124]; exact hP
            have hD : va_D A (mw ad kk ks.1 V124 L14) := by rw [hV124]; exact hD
            have hMV124 : rgd bM V124 := hMV13.put hV124 (i_full _)
            have agV124 : agr [(0, 7), (0, 8), (0, 48), (0, 50)] [35, 36, 37, 38, 45, 46, 47] V V124 := agV13.up hV124 rfl
            have hr125 : ∀ k, Rc gT (Crun gs (Iexpr gd :: k)) (Crun (nx sx19 1) (Isum gd :: k)) := fun k => Rc.go1 (hr23 k) (cmp_y gd (Or.inr kd119))
            have rl126 : RelM V124 L14 bq gn gT (nx sx19 1) gl := RelM.n1 rl21 hV124 (by omega) (by rw [kd119]; decide)
            have ps127 : (nx sx19 1).1 0 = sx19.1 0 + 1 := rfl
            have fz128 := RelM.rg rl126
            have pq129 : (V124 0 8).toInt = ((V13 0 8)).toInt := congrArg Int32.toInt (up2_k hV124 (by decide))
            have pq130 : (V124 0 7).toInt = z123.toInt := congrArg Int32.toInt (up2_s hV124)
            refine lv_aload_n hx hb dX12_expression_34 rfl (lv_at hl 1 rfl) ?_
            have pq131 : (V124 0 48).toInt = ((V13 0 48)).toInt := congrArg Int32.toInt (up2_k hV124 (by decide))
            have pq132 : (V124 0 50).toInt = ((V13 0 50)).toInt := congrArg Int32.toInt (up2_k hV124 (by decide))
            refine gA_void (gA_runV (As := []) (rest := []) (ci := 12) (q0 := 0) hx hb hml hown hg hP hD hK hS hA hnw hgk (hk_s_sumA H.size ad kk V124 L14 (bq) (gn) (gT) ((nx sx19 1)) (gl) (gd) hMV124 rl126 (show (V124 0 48).toInt ≤ 2 * (V124 0 7).toInt from by first | omega | ((try (have i_t8 := Imp.go t8 (by omega))); omega)) (show (V124 0 50).toInt = ((gd) : Int) from by first | omega | ((try (have i_t8 := Imp.go t8 (by omega))); omega)) (show (V124 0 50).toInt + (dd : Int) = 8 from by first | omega | ((try (have i_t8 := Imp.go t8 (by omega))); omega)) (EM.mv em ((up2_k hV124 (by decide)).trans (ajV13 0 51 rfl)) ((up2_k hV124 (by decide)).trans (ajV13 0 52 rfl)) (by rw [(up2_fo hV124 (by decide) : V124 27 = V13 27), (funext (fun q => ajV13 27 q rfl) : V13 27 = V 27)] : V124 27 = V 27) ((keepS.tr (keepS.tr (keepS.rf : keepS gs 0 gs) kp22) (keepS.n1 1))).2.1)) w2120 w2122 w107 w172 w2123 rfl rfl hdV_yX12_sum ⟨(by show 10 * dd + 12 + 1 ≤ 10 * dd + 13; omega), (by show 8 + (3 + 11) + (300 * dd + 380) ≤ 300 * dd + 420; omega)⟩ rfl hl.1 rfl (Nat.le_of_ble_eq_true rfl) dX12_expression_35 ⟨Nat.le_of_ble_eq_true rfl, Nat.le_of_ble_eq_true rfl⟩) hP hD hK hS hA (fun u134 H locs w135 hP hD hK hS => ?_)
            obtain ⟨V141, L142⟩ := u134
            obtain ⟨hMV141, ajV141, axL142, t136, t137, t138, t139, t140⟩ := w135
            have alL142 : agL [35, 36, 37, 38, 45, 46, 47] L L142 := agL.tr alL14 axL142 (by decide)
            have hP : va_P D vwCl (mw ad kk ks.1 V141 L142) H := hP
            have hD : va_D A (mw ad kk ks.1 V141 L142) := hD
            have hMV141 : rgd bM V141 := hMV141
            have ajV141 : agr [(0, 7), (0, 8), (0, 48), (0, 50)] [35, 36, 37, 38, 45, 46, 47] V124 V141 := ajV141
            have agV141 : agr [(0, 7), (0, 8), (0, 48), (0, 50)] [35, 36, 37, 38, 45, 46, 47] V V141 := agV124.tr ajV141 (by decide) (by decide)
            have t136 : Imp ((V141 0 8).toInt = 0) ((V141 0 48).toInt - (V124 0 48).toInt ≤ 2 * ((V141 0 7).toInt - (V124 0 7).toInt)) := t136
            have t137 : (V141 0 48).toInt ≤ 8050 - 6 * (V124 0 50).toInt := t137
            have t138 : (V141 0 50).toInt = (V124 0 50).toInt := t138
            have t139 : (V124 0 48).toInt ≤ (V141 0 48).toInt := t139
            have t140 : RdM (gT) ((nx sx19 1)) (fun k => Isum (gd) :: k) (fun k => k) (V141 0 8).toInt (fun s9 => RelM V141 L142 (bq) (gn) (gT) s9 (gl) ∧ keepS ((nx sx19 1)) 1 s9) := t140
            have r143 : 0 ≤ ((V141 0 48)).toInt ∧ ((V141 0 48)).toInt ≤ 10000 := hMV141 0 48
            have r144 : 0 ≤ ((V141 0 8)).toInt ∧ ((V141 0 8)).toInt ≤ 70000 := hMV141 0 8
            have r145 : 0 ≤ ((V141 0 50)).toInt ∧ ((V141 0 50)).toInt ≤ 9 := hMV141 0 50
            rcases t140 with ⟨q146, sx147, h148, rl149, kp150⟩ | ⟨q146, h148⟩
            · skip
              have hr151 : ∀ k, Rc gT (Crun gs (Iexpr gd :: k)) (Crun sx147 (k)) := fun k => (hr125 k).tr (h148 (k))
              have fz152 := RelM.rg rl149
              have ps153 := (kp150).1
              refine lv_aload_n hx hb dX12_expression_38 rfl (lv_at hl 1 rfl) ?_
              refine lv_iload_n hx hb dX12_expression_39 rfl (lv_at hl 0 rfl) ?_
              refine lv_if_eq (tgt := 48) hx hb dX12_expression_40 (by decide) (fun c154 => ?_) (fun c154 => ?_)
              · skip
                have f155 : z27.toInt = 0 := b_eq rfl (by decide) c154
                refine lv_bipush (v := 9) hx hb dX12_expression_48 (by decide) ?_
                refine lv_iconst (v := 0) hx hb dX12_expression_50 (by decide) ?_
                refine lv_iconst (v := 0) hx hb dX12_expression_51 (by decide) ?_
                have r156 : Int32.toInt 9 = 9 := by decide
                have r157 : Int32.toInt 0 = 0 := by decide
                refine gA_int (gA_runV (As := [.int 9, .int 0, .int 0]) (rest := []) (ci := 12) (q0 := 0) hx hb hml hown hg hP hD hK hS hA hnw hgk (s_emit3 l D ks H.size ad kk V141 L142 9 0 0 hMV141 (show (V141 0 48).toInt ≤ 9999 from by first | omega | ((try (have i_t136 := Imp.go t136 (by omega))); (try (have i_t8 := Imp.go t8 (by omega))); (try (have i_t8 := Imp.go t8 (by omega))); (try (have i_t136 := Imp.go t136 (by omega))); omega))) w2136 w2138 w111 w172 w2139 rfl rfl hdV_yX12_emit ⟨(by show 0 + 1 ≤ 10 * dd + 13; omega), (by show 8 + (4 + 11) + (0) ≤ 300 * dd + 420; omega)⟩ rfl hl.1 rfl (Nat.le_of_ble_eq_true rfl) dX12_expression_52 ⟨Nat.le_of_ble_eq_true rfl, Nat.le_of_ble_eq_true rfl⟩) hP hD hK hS hA (fun z158 u159 H locs w160 hP hD hK hS => ?_)
                obtain ⟨V164, L165⟩ := u159
                obtain ⟨hMV164, ajV164, axL165, rgz158, t161, t162, t163⟩ := w160
                have axL165 : L142 = L165 := Eq.symm axL165
                subst axL165
                have hP : va_P D vwCl (mw ad kk ks.1 V164 L142) H := hP
                have hD : va_D A (mw ad kk ks.1 V164 L142) := hD
                have hMV164 : rgd bM V164 := hMV164
                have ajV164 : agr [(0, 48)] [45, 46, 47] V141 V164 := ajV164
                have agV164 : agr [(0, 7), (0, 8), (0, 48), (0, 50)] [35, 36, 37, 38, 45, 46, 47] V V164 := agV141.tr ajV164 (by decide) (by decide)
                have rgz158 : 0 ≤ z158.toInt ∧ z158.toInt ≤ 20000 := rgz158
                have t161 : (V164 0 48).toInt = (V141 0 48).toInt + 1 := t161
                have t162 : z158.toInt = (V141 0 49).toInt + (V141 0 48).toInt := t162
                have t163 : emitted V141 V164 (pA V141) 9 0 0 := t163
                have r166 : 0 ≤ ((V164 0 48)).toInt ∧ ((V164 0 48)).toInt ≤ 10000 := hMV164 0 48
                have pq167 : (V141 0 49).toInt = ((V 0 49)).toInt := congrArg Int32.toInt ((ajV141 0 49 rfl).trans ((up2_k hV124 (by decide)).trans (ajV13 0 49 rfl)))
                have r168 : 0 ≤ ((V 0 49)).toInt ∧ ((V 0 49)).toInt ≤ 10000 := hMV 0 49
                refine lv_istore_n (lv' := [(2, .int z158), (1, .int z27), (0, .ref (ad 0))]) hx hb dX12_expression_55 rfl hl (by decide) rfl (fun ls hl => ?_)
                have pq169 : (V164 0 7).toInt = ((V141 0 7)).toInt := congrArg Int32.toInt (ajV164 0 7 rfl)
                have pq170 : (V164 0 8).toInt = ((V141 0 8)).toInt := congrArg Int32.toInt (ajV164 0 8 rfl)
                have pq171 : (V164 0 50).toInt = ((V141 0 50)).toInt := congrArg Int32.toInt (ajV164 0 50 rfl)
                have rl172 : RelM V164 L142 bq gn gT sx147 gl := RelM.ag rl149 (show agr [(0, 48)] [45, 46, 47] V141 V164 from (agr.tr agr.rf ajV164 (by decide) (by decide))) (by decide) (show agL [] L142 L142 from agL.rf) (by decide)
                exact W.vret hx hb hr (fun t ht hW => ⟨⟨(V164, L142), rfl, ⟨hMV164, agV164, alL142, (Imp.mk (fun hp => have hp : (V164 0 8).toInt = 0 := hp; (show (V164 0 48).toInt - (V 0 48).toInt ≤ 2 * ((V164 0 7).toInt - (V 0 7).toInt) from by first | omega | ((try (have i_t136 := Imp.go t136 (by omega))); (try (have i_t8 := Imp.go t8 (by omega))); (try (have i_t8 := Imp.go t8 (by omega))); (try (have i_t136 := Imp.go t136 (by omega))); omega)))), (show (V164 0 48).toInt ≤ 8051 - 6 * (V 0 50).toInt from by first | omega | ((try (have i_t136 := Imp.go t136 (by omega))); (try (have i_t8 := Imp.go t8 (by omega))); (try (have i_t8 := Imp.go t8 (by omega))); (try (have i_t136 := Imp.go t136 (by omega))); omega)), (show (V164 0 50).toInt = (V 0 50).toInt from by first | omega | ((try (have i_t136 := Imp.go t136 (by omega))); (try (have i_t8 := Imp.go t8 (by omega))); (try (have i_t8 := Imp.go t8 (by omega))); (try (have i_t136 := Imp.go t136 (by omega))); omega)), (show (V 0 48).toInt ≤ (V164 0 48).toInt from by first | omega | ((try (have i_t136 := Imp.go t136 (by omega))); (try (have i_t8 := Imp.go t8 (by omega))); (try (have i_t8 := Imp.go t8 (by omega))); (try (have i_t136 := Imp.go t136 (by omega))); omega)), (Or.inl ⟨W0 rl172, sx147, hr151, rl172, keepS.le (keepS.tr (keepS.tr (keepS.tr (keepS.rf : keepS gs 0 gs) kp22) (keepS.n1 1)) kp150) (by decide)⟩)⟩, by rw [ht]; exact hP, va_K.moved hW.alike hK, hD⟩, hS.F ht⟩) hS.2.2 dX12_expression_56
              · skip
                have f173 : z27.toInt ≠ 0 := b_neq rfl (by decide) c154
                exfalso; first | omega | ((try (have i_t136 := Imp.go t136 (by omega))); (try (have i_t8 := Imp.go t8 (by omega))); (try (have i_t8 := Imp.go t8 (by omega))); (try (have i_t136 := Imp.go t136 (by omega))); omega)
            · skip
              have hb174 : ∀ k, Rc gT (Crun gs (Iexpr gd :: k)) (Cbad (V141 0 8).toInt) := fun k => (hr125 k).tr (h148 (k))
              refine lv_aload_n hx hb dX12_expression_38 rfl (lv_at hl 1 rfl) ?_
              refine lv_iload_n hx hb dX12_expression_39 rfl (lv_at hl 0 rfl) ?_
              refine lv_if_eq (tgt := 48) hx hb dX12_expression_40 (by decide) (fun c175 => ?_) (fun c175 => ?_)
              · skip
                have f176 : z27.toInt = 0 := b_eq rfl (by decide) c175
                refine lv_bipush (v := 9) hx hb dX12_expression_48 (by decide) ?_
                refine lv_iconst (v := 0) hx hb dX12_expression_50 (by decide) ?_
                refine lv_iconst (v := 0) hx hb dX12_expression_51 (by decide) ?_
                have r177 : Int32.toInt 9 = 9 := by decide
                have r178 : Int32.toInt 0 = 0 := by decide
                refine gA_int (gA_runV (As := [.int 9, .int 0, .int 0]) (rest := []) (ci := 12) (q0 := 0) hx hb hml hown hg hP hD hK hS hA hnw hgk (s_emit3 l D ks H.size ad kk V141 L142 9 0 0 hMV141 (show (V141 0 48).toInt ≤ 9999 from by first | omega | ((try (have i_t136 := Imp.go t136 (by omega))); (try (have i_t8 := Imp.go t8 (by omega))); (try (have i_t8 := Imp.go t8 (by omega))); (try (have i_t136 := Imp.go t136 (by omega))); omega))) w2136 w2138 w111 w172 w2139 rfl rfl hdV_yX12_emit ⟨(by show 0 + 1 ≤ 10 * dd + 13; omega), (by show 8 + (4 + 11) + (0) ≤ 300 * dd + 420; omega)⟩ rfl hl.1 rfl (Nat.le_of_ble_eq_true rfl) dX12_expression_52 ⟨Nat.le_of_ble_eq_true rfl, Nat.le_of_ble_eq_true rfl⟩) hP hD hK hS hA (fun z179 u180 H locs w181 hP hD hK hS => ?_)
                obtain ⟨V185, L186⟩ := u180
                obtain ⟨hMV185, ajV185, axL186, rgz179, t182, t183, t184⟩ := w181
                have axL186 : L142 = L186 := Eq.symm axL186
                subst axL186
                have hP : va_P D vwCl (mw ad kk ks.1 V185 L142) H := hP
                have hD : va_D A (mw ad kk ks.1 V185 L142) := hD
                have hMV185 : rgd bM V185 := hMV185
                have ajV185 : agr [(0, 48)] [45, 46, 47] V141 V185 := ajV185
                have agV185 : agr [(0, 7), (0, 8), (0, 48), (0, 50)] [35, 36, 37, 38, 45, 46, 47] V V185 := agV141.tr ajV185 (by decide) (by decide)
                have rgz179 : 0 ≤ z179.toInt ∧ z179.toInt ≤ 20000 := rgz179
                have t182 : (V185 0 48).toInt = (V141 0 48).toInt + 1 := t182
                have t183 : z179.toInt = (V141 0 49).toInt + (V141 0 48).toInt := t183
                have t184 : emitted V141 V185 (pA V141) 9 0 0 := t184
                have r187 : 0 ≤ ((V185 0 48)).toInt ∧ ((V185 0 48)).toInt ≤ 10000 := hMV185 0 48
                have pq188 : (V141 0 49).toInt = ((V 0 49)).toInt := congrArg Int32.toInt ((ajV141 0 49 rfl).trans ((up2_k hV124 (by decide)).trans (ajV13 0 49 rfl)))
                have r189 : 0 ≤ ((V 0 49)).toInt ∧ ((V 0 49)).toInt ≤ 10000 := hMV 0 49
                refine lv_istore_n (lv' := [(2, .int z179), (1, .int z27), (0, .ref (ad 0))]) hx hb dX12_expression_55 rfl hl (by decide) rfl (fun ls hl => ?_)
                have pq190 : (V185 0 7).toInt = ((V141 0 7)).toInt := congrArg Int32.toInt (ajV185 0 7 rfl)
                have pq191 : (V185 0 8).toInt = ((V141 0 8)).toInt := congrArg Int32.toInt (ajV185 0 8 rfl)
                have pq192 : (V185 0 50).toInt = ((V141 0 50)).toInt := congrArg Int32.toInt (ajV185 0 50 rfl)
                exact W.vret hx hb hr (fun t ht hW => ⟨⟨(V185, L142), rfl, ⟨hMV185, agV185, alL142, (Imp.mk (fun hp => have hp : (V185 0 8).toInt = 0 := hp; (show (V185 0 48).toInt - (V 0 48).toInt ≤ 2 * ((V185 0 7).toInt - (V 0 7).toInt) from by first | omega | ((try (have i_t136 := Imp.go t136 (by omega))); (try (have i_t8 := Imp.go t8 (by omega))); (try (have i_t8 := Imp.go t8 (by omega))); (try (have i_t136 := Imp.go t136 (by omega))); omega)))), (show (V185 0 48).toInt ≤ 8051 - 6 * (V 0 50).toInt from by first | omega | ((try (have i_t136 := Imp.go t136 (by omega))); (try (have i_t8 := Imp.go t8 (by omega))); (try (have i_t8 := Imp.go t8 (by omega))); (try (have i_t136 := Imp.go t136 (by omega))); omega)), (show (V185 0 50).toInt = (V 0 50).toInt from by first | omega | ((try (have i_t136 := Imp.go t136 (by omega))); (try (have i_t8 := Imp.go t8 (by omega))); (try (have i_t8 := Imp.go t8 (by omega))); (try (have i_t136 := Imp.go t136 (by omega))); omega)), (show (V 0 48).toInt ≤ (V185 0 48).toInt from by first | omega | ((try (have i_t136 := Imp.go t136 (by omega))); (try (have i_t8 := Imp.go t8 (by omega))); (try (have i_t8 := Imp.go t8 (by omega))); (try (have i_t136 := Imp.go t136 (by omega))); omega)), (Or.inr ⟨(show 1 ≤ (V185 0 8).toInt from by omega), (fun k => by rw [show (V185 0 8).toInt = (V141 0 8).toInt from by omega]; exact hb174 k)⟩)⟩, by rw [ht]; exact hP, va_K.moved hW.alike hK, hD⟩, hS.F ht⟩) hS.2.2 dX12_expression_56
              · skip
                have f193 : z27.toInt ≠ 0 := b_neq rfl (by decide) c175
                exfalso; first | omega | ((try (have i_t136 := Imp.go t136 (by omega))); (try (have i_t8 := Imp.go t8 (by omega))); (try (have i_t8 := Imp.go t8 (by omega))); (try (have i_t136 := Imp.go t136 (by omega))); omega)
        · skip
          have kd194 : gT.1 (sx19.1 0) ≠ 61 := fun h9 => h118 (h9.trans (by decide))
          refine lv_if_eq (tgt := 56) hx hb dX12_expression_21 (by decide) (fun c195 => ?_) (fun c195 => ?_)
          · skip
            have f196 : z113.toInt = 0 := b_eq rfl (by decide) c195
            have hr197 : ∀ k, Rc gT (Crun gs (Iexpr gd :: k)) (Crun sx19 (k)) := fun k => Rc.go1 (hr23 k) (cmp_n gd kd108 kd194)
            exact W.vret hx hb hr (fun t ht hW => ⟨⟨(V13, L14), rfl, ⟨hMV13, agV13, alL14, (Imp.mk (fun hp => have hp : (V13 0 8).toInt = 0 := hp; (show (V13 0 48).toInt - (V 0 48).toInt ≤ 2 * ((V13 0 7).toInt - (V 0 7).toInt) from by first | omega | ((try (have i_t8 := Imp.go t8 (by omega))); omega)))), (show (V13 0 48).toInt ≤ 8051 - 6 * (V 0 50).toInt from by first | omega | ((try (have i_t8 := Imp.go t8 (by omega))); omega)), (show (V13 0 50).toInt = (V 0 50).toInt from by first | omega | ((try (have i_t8 := Imp.go t8 (by omega))); omega)), (show (V 0 48).toInt ≤ (V13 0 48).toInt from by first | omega | ((try (have i_t8 := Imp.go t8 (by omega))); omega)), (Or.inl ⟨W0 rl21, sx19, hr197, rl21, keepS.le (keepS.tr (keepS.rf : keepS gs 0 gs) kp22) (by decide)⟩)⟩, by rw [ht]; exact hP, va_K.moved hW.alike hK, hD⟩, hS.F ht⟩) hS.2.2 dX12_expression_56
          · skip
            have f198 : z113.toInt ≠ 0 := b_neq rfl (by decide) c195
            exfalso; first | omega | ((try (have i_t8 := Imp.go t8 (by omega))); omega)
  · skip
    have hb199 : ∀ k, Rc gT (Crun gs (Iexpr gd :: k)) (Cbad (V13 0 8).toInt) := fun k => (hr4 k).tr (h20 (Icmp gd :: k))
    refine lv_aload_n hx hb dX12_expression_4 rfl (lv_at hl 0 rfl) ?_
    refine lv_bipush (v := 60) hx hb dX12_expression_5 (by decide) ?_
    have r200 : Int32.toInt 60 = 60 := by decide
    refine gA_int (gA_runV (As := [.int 60]) (rest := []) (ci := 12) (q0 := 0) hx hb hml hown hg hP hD hK hS hA hnw hgk (s_isSignB l D ks H.size ad kk V13 L14 60 hMV13 (show 1 ≤ (V13 0 8).toInt from by first | omega | ((try (have i_t8 := Imp.go t8 (by omega))); omega))) w2071 w2073 w95 w172 w2074 rfl rfl hdV_yX12_isSign ⟨(by show 0 + 1 ≤ 10 * dd + 13; omega), (by show 8 + (2 + 11) + (0) ≤ 300 * dd + 420; omega)⟩ rfl hl.1 rfl (Nat.le_of_ble_eq_true rfl) dX12_expression_7 ⟨Nat.le_of_ble_eq_true rfl, Nat.le_of_ble_eq_true rfl⟩) hP hD hK hS hA (fun z201 u202 H locs w203 hP hD hK hS => ?_)
    have rgz201 := w203
    have rgz201 : 0 ≤ z201.toInt ∧ z201.toInt ≤ 0 := rgz201
    refine lv_istore_n (lv' := [(1, .int z201), (0, .ref (ad 0))]) hx hb dX12_expression_10 rfl hl (by decide) rfl (fun ls hl => ?_)
    refine lv_iload_n hx hb dX12_expression_11 rfl (lv_at hl 0 rfl) ?_
    refine lv_if_ne (tgt := 24) hx hb dX12_expression_12 (by decide) (fun c204 => ?_) (fun c204 => ?_)
    · skip
      have f205 : z201.toInt ≠ 0 := b_neq rfl (by decide) c204
      exfalso; first | omega | ((try (have i_t8 := Imp.go t8 (by omega))); omega)
    · skip
      have f206 : z201.toInt = 0 := b_eq rfl (by decide) c204
      refine lv_aload_n hx hb dX12_expression_15 rfl (lv_at hl 1 rfl) ?_
      refine lv_bipush (v := 61) hx hb dX12_expression_16 (by decide) ?_
      have r207 : Int32.toInt 61 = 61 := by decide
      refine gA_int (gA_runV (As := [.int 61]) (rest := []) (ci := 12) (q0 := 0) hx hb hml hown hg hP hD hK hS hA hnw hgk (s_isSignB l D ks H.size ad kk V13 L14 61 hMV13 (show 1 ≤ (V13 0 8).toInt from by first | omega | ((try (have i_t8 := Imp.go t8 (by omega))); omega))) w2071 w2073 w95 w172 w2074 rfl rfl hdV_yX12_isSign ⟨(by show 0 + 1 ≤ 10 * dd + 13; omega), (by show 8 + (2 + 11) + (0) ≤ 300 * dd + 420; omega)⟩ rfl hl.1 rfl (Nat.le_of_ble_eq_true rfl) dX12_expression_18 ⟨Nat.le_of_ble_eq_true rfl, Nat.le_of_ble_eq_true rfl⟩) hP hD hK hS hA (fun z208 u209 H locs w210 hP hD hK hS => ?_)
      have rgz208 := w210
      have rgz208 : 0 ≤ z208.toInt ∧ z208.toInt ≤ 0 := rgz208
      refine lv_if_eq (tgt := 56) hx hb dX12_expression_21 (by decide) (fun c211 => ?_) (fun c211 => ?_)
      · skip
        have f212 : z208.toInt = 0 := b_eq rfl (by decide) c211
        exact W.vret hx hb hr (fun t ht hW => ⟨⟨(V13, L14), rfl, ⟨hMV13, agV13, alL14, (Imp.mk (fun hp => have hp : (V13 0 8).toInt = 0 := hp; (show (V13 0 48).toInt - (V 0 48).toInt ≤ 2 * ((V13 0 7).toInt - (V 0 7).toInt) from by first | omega | ((try (have i_t8 := Imp.go t8 (by omega))); omega)))), (show (V13 0 48).toInt ≤ 8051 - 6 * (V 0 50).toInt from by first | omega | ((try (have i_t8 := Imp.go t8 (by omega))); omega)), (show (V13 0 50).toInt = (V 0 50).toInt from by first | omega | ((try (have i_t8 := Imp.go t8 (by omega))); omega)), (show (V 0 48).toInt ≤ (V13 0 48).toInt from by first | omega | ((try (have i_t8 := Imp.go t8 (by omega))); omega)), (Or.inr ⟨(show 1 ≤ (V13 0 8).toInt from by omega), hb199⟩)⟩, by rw [ht]; exact hP, va_K.moved hW.alike hK, hD⟩, hS.F ht⟩) hS.2.2 dX12_expression_56
      · skip
        have f213 : z208.toInt ≠ 0 := b_neq rfl (by decide) c211
        exfalso; first | omega | ((try (have i_t8 := Imp.go t8 (by omega))); omega)
set_option maxHeartbeats 4000000 in
set_option maxRecDepth 100000 in
theorem s_sumA {l : Launch} {D : va_G} {ks : KS} {dd : Nat} (hk_s_productA : K_s_productA l D ks dd) : K_s_sumA l D ks dd := by
  intro sz ad kk V L  bq gn gT gs gl gd hMV rel c1 yd c4 em
  refine g_met (q_s_sumA D ks ad kk V L  bq gn gT gs gl gd) (by decide) (Nat.le_of_ble_eq_true rfl) ?_
  intro p e s m below meth c A ls H locs hx hb hr hml hown hg hlocks hin hnw hgk hP hK hD hS hA hl
  have hown : s.vm.findClass RX12 = some m.cls := hown
  have hl : lv_has ls 3 [(0, .ref (ad 0))] := hl
  have hP : va_P D vwCl (mw ad kk ks.1 V L) H := hP
  have hD : va_D A (mw ad kk ks.1 V L) := hD
  have hK : va_K D vwCl (mty kk) s := hK
  have agV : agr [(0, 7), (0, 8), (0, 48), (0, 50)] [35, 36, 37, 38, 45, 46, 47] V V := agr.rf
  have alL : agL [35, 36, 37, 38, 45, 46, 47] L L := agL.rf
  have r1 : 0 ≤ ((V 0 48)).toInt ∧ ((V 0 48)).toInt ≤ 10000 := hMV 0 48
  have r2 : 0 ≤ ((V 0 50)).toInt ∧ ((V 0 50)).toInt ≤ 9 := hMV 0 50
  have rg0 := RelM.rg rel
  have cl0 := RelM.cl rel
  have cq0 := RelM.cq rel
  refine lv_aload_n hx hb dX12_sum_0 rfl (lv_at hl 0 rfl) ?_
  have hr3 : ∀ k, Rc gT (Crun gs (Isum gd :: k)) (Crun gs (Isum gd :: k)) := fun k => Rc.rf
  have hr4 : ∀ k, Rc gT (Crun gs (Isum gd :: k)) (Crun gs (Iprod gd :: IsumR gd :: k)) := fun k => Rc.go1 (hr3 k) (m_sum gd)
  refine gA_void (gA_runV (As := []) (rest := []) (ci := 12) (q0 := 0) hx hb hml hown hg hP hD hK hS hA hnw hgk (hk_s_productA H.size ad kk V L (bq) (gn) (gT) (gs) (gl) (gd) hMV rel (show (V 0 48).toInt ≤ 2 * (V 0 7).toInt from by omega) (show (V 0 50).toInt = ((gd) : Int) from by omega) (show (V 0 50).toInt + (dd : Int) = 8 from by omega) em) w2124 w2126 w108 w172 w2127 rfl rfl hdV_yX12_product ⟨(by show 10 * dd + 11 + 1 ≤ 10 * dd + 12; omega), (by show 8 + (2 + 11) + (300 * dd + 340) ≤ 300 * dd + 380; omega)⟩ rfl hl.1 rfl (Nat.le_of_ble_eq_true rfl) dX12_sum_1 ⟨Nat.le_of_ble_eq_true rfl, Nat.le_of_ble_eq_true rfl⟩) hP hD hK hS hA (fun u6 H locs w7 hP hD hK hS => ?_)
  obtain ⟨V13, L14⟩ := u6
  obtain ⟨hMV13, ajV13, axL14, t8, t9, t10, t11, t12⟩ := w7
  have alL14 : agL [35, 36, 37, 38, 45, 46, 47] L L14 := agL.tr alL axL14 (by decide)
  have hP : va_P D vwCl (mw ad kk ks.1 V13 L14) H := hP
  have hD : va_D A (mw ad kk ks.1 V13 L14) := hD
  have hMV13 : rgd bM V13 := hMV13
  have ajV13 : agr [(0, 7), (0, 8), (0, 48), (0, 50)] [35, 36, 37, 38, 45, 46, 47] V V13 := ajV13
  have agV13 : agr [(0, 7), (0, 8), (0, 48), (0, 50)] [35, 36, 37, 38, 45, 46, 47] V V13 := agV.tr ajV13 (by decide) (by decide)
  have t8 : Imp ((V13 0 8).toInt = 0) ((V13 0 48).toInt - (V 0 48).toInt ≤ 2 * ((V13 0 7).toInt - (V 0 7).toInt)) := t8
  have t9 : (V13 0 48).toInt ≤ 8049 - 6 * (V 0 50).toInt := t9
  have t10 : (V13 0 50).toInt = (V 0 50).toInt := t10
  have t11 : (V 0 48).toInt ≤ (V13 0 48).toInt := t11
  have t12 : RdM (gT) (gs) (fun k => Iprod (gd) :: k) (fun k => k) (V13 0 8).toInt (fun s9 => RelM V13 L14 (bq) (gn) (gT) s9 (gl) ∧ keepS (gs) 1 s9) := t12
  have r15 : 0 ≤ ((V13 0 48)).toInt ∧ ((V13 0 48)).toInt ≤ 10000 := hMV13 0 48
  have r16 : 0 ≤ ((V13 0 8)).toInt ∧ ((V13 0 8)).toInt ≤ 70000 := hMV13 0 8
  have r17 : 0 ≤ ((V13 0 50)).toInt ∧ ((V13 0 50)).toInt ≤ 9 := hMV13 0 50
  rcases t12 with ⟨q18, sx19, h20, rl21, kp22⟩ | ⟨q18, h20⟩
  · skip
    have hr23 : ∀ k, Rc gT (Crun gs (Isum gd :: k)) (Crun sx19 (IsumR gd :: k)) := fun k => (hr4 k).tr (h20 (IsumR gd :: k))
    have fz24 := RelM.rg rl21
    have ps25 := (kp22).1
    have lp29 : ∀ (fulp29 : Nat) (g28 : Int) (V26 : Vf) (L27 : Lf) (H : Heap) (locs : List Loc) (ls : Array Slot), (((V26 0 8).toInt = 0 ∧ ∃ s1 : St, (∀ k, Rc gT (Crun gs (Isum gd :: k)) (Crun s1 (IsumR gd :: k))) ∧ RelM V26 L27 bq gn gT s1 gl ∧ keepS gs 1 s1) ∨ (1 ≤ (V26 0 8).toInt ∧ ∀ k, Rc gT (Crun gs (Isum gd :: k)) (Cbad (V26 0 8).toInt))) → 0 ≤ g28 → Imp ((V26 0 8).toInt = 0) ((gn : Int) - (V26 0 7).toInt < g28) → Imp ((V26 0 8).toInt = 0) ((V26 0 48).toInt - (V 0 48).toInt ≤ 2 * ((V26 0 7).toInt - (V 0 7).toInt)) → (V26 0 48).toInt ≤ 8050 - 6 * (V 0 50).toInt → (V26 0 50).toInt = (V 0 50).toInt → (V 0 48).toInt ≤ (V26 0 48).toInt → g28 < (fulp29 : Int) → agL [35, 36, 37, 38, 45, 46, 47] L L27 → agr [(0, 7), (0, 8), (0, 48), (0, 50)] [35, 36, 37, 38, 45, 46, 47] V13 V26 → rgd bM V26 → va_P D vwCl (mw ad kk ks.1 V26 L27) H → va_D A (mw ad kk ks.1 V26 L27) → va_S A s.heap H locs → lv_has ls 3 [(0, .ref (ad 0))] → W p l e (rK 12 380 dd) s m ([.ref (ad 0)] : List Value).toArray below meth c H locs 0 0 (MQ below (q_s_sumA D ks ad kk V L  bq gn gT gs gl gd A) ([.ref (ad 0)] : List Value).toArray s 0 0 A) (F0 m 4 ls []) := by
      intro fulp29
      induction fulp29 with
      | zero =>
        intro g28 V26 L27 H locs ls xlp29_0 xlp29_1 xlp29_2 xlp29_3 xlp29_4 xlp29_5 xlp29_6 hn alL27 ajV26 hMV26 hP hD hS hl
        exfalso; omega
      | succ fulp29 ihlp29 =>
        intro g28 V26 L27 H locs ls xlp29_0 xlp29_1 xlp29_2 xlp29_3 xlp29_4 xlp29_5 xlp29_6 hn alL27 ajV26 hMV26 hP hD hS hl
        have agV26 : agr [(0, 7), (0, 8), (0, 48), (0, 50)] [35, 36, 37, 38, 45, 46, 47] V V26 := agV13.tr ajV26 (by decide) (by decide)
        have r30 : 0 ≤ ((V26 0 8)).toInt ∧ ((V26 0 8)).toInt ≤ 70000 := hMV26 0 8
        have r31 : 0 ≤ ((V26 0 48)).toInt ∧ ((V26 0 48)).toInt ≤ 10000 := hMV26 0 48
        have r32 : 0 ≤ ((V26 0 50)).toInt ∧ ((V26 0 50)).toInt ≤ 9 := hMV26 0 50
        refine lv_aload_n hx hb dX12_sum_4 rfl (lv_at hl 0 rfl) ?_
        rcases xlp29_0 with ⟨f8, s1, hq, rq, kq⟩ | ⟨f8, hq⟩
        · skip
          have fz33 := RelM.rg rq
          refine lv_bipush (v := 43) hx hb dX12_sum_5 (by decide) ?_
          have r34 : Int32.toInt 43 = 43 := by decide
          refine gA_int (gA_runV (As := [.int 43]) (rest := []) (ci := 12) (q0 := 0) hx hb hml hown hg hP hD hK hS hA hnw hgk (s_isSignA l D ks H.size ad kk V26 L27 43 (bq) (gn) (gT) (s1) (gl) hMV26 rq (sg_yes (j := 43) (by decide) (by decide) (by decide))) w2071 w2073 w95 w172 w2074 rfl rfl hdV_yX12_isSign ⟨(by show 0 + 1 ≤ 10 * dd + 12; omega), (by show 8 + (2 + 11) + (0) ≤ 300 * dd + 380; omega)⟩ rfl hl.1 rfl (Nat.le_of_ble_eq_true rfl) dX12_sum_7 ⟨Nat.le_of_ble_eq_true rfl, Nat.le_of_ble_eq_true rfl⟩) hP hD hK hS hA (fun z35 u36 H locs w37 hP hD hK hS => ?_)
          obtain ⟨rgz35, t38⟩ := w37
          have rgz35 : 0 ≤ z35.toInt ∧ z35.toInt ≤ 1 := rgz35
          have t38 : (z35.toInt = 1 ∧ (gT).1 ((s1).1 0) = (Int32.toInt 43)) ∨ (z35.toInt = 0 ∧ (gT).1 ((s1).1 0) ≠ (Int32.toInt 43)) := t38
          rcases t38 with ⟨q39, h40⟩ | ⟨q39, h40⟩
          · skip
            have kd41 : gT.1 (s1.1 0) = 43 := h40.trans (by decide)
            refine lv_if_ne (tgt := 22) hx hb dX12_sum_10 (by decide) (fun c42 => ?_) (fun c42 => ?_)
            · skip
              have f43 : z35.toInt ≠ 0 := b_neq rfl (by decide) c42
              refine lv_aload_n hx hb dX12_sum_22 rfl (lv_at hl 0 rfl) ?_
              refine lv_bipush (v := 43) hx hb dX12_sum_23 (by decide) ?_
              refine gA_int (gA_runV (As := [.int 43]) (rest := []) (ci := 12) (q0 := 0) hx hb hml hown hg hP hD hK hS hA hnw hgk (s_isSignA l D ks H.size ad kk V26 L27 43 (bq) (gn) (gT) (s1) (gl) hMV26 rq (sg_yes (j := 43) (by decide) (by decide) (by decide))) w2071 w2073 w95 w172 w2074 rfl rfl hdV_yX12_isSign ⟨(by show 0 + 1 ≤ 10 * dd + 12; omega), (by show 8 + (2 + 11) + (0) ≤ 300 * dd + 380; omega)⟩ rfl hl.1 rfl (Nat.le_of_ble_eq_true rfl) dX12_sum_25 ⟨Nat.le_of_ble_eq_true rfl, Nat.le_of_ble_eq_true rfl⟩) hP hD hK hS hA (fun z44 u45 H locs w46 hP hD hK hS => ?_)
              obtain ⟨rgz44, t47⟩ := w46
              have rgz44 : 0 ≤ z44.toInt ∧ z44.toInt ≤ 1 := rgz44
              have t47 : (z44.toInt = 1 ∧ (gT).1 ((s1).1 0) = (Int32.toInt 43)) ∨ (z44.toInt = 0 ∧ (gT).1 ((s1).1 0) ≠ (Int32.toInt 43)) := t47
              rcases t47 with ⟨q48, h49⟩ | ⟨q48, h49⟩
              · skip
                have kd50 : gT.1 (s1.1 0) = 43 := h49.trans (by decide)
                refine lv_if_eq (tgt := 36) hx hb dX12_sum_28 (by decide) (fun c51 => ?_) (fun c51 => ?_)
                · skip
                  have f52 : z44.toInt = 0 := b_eq rfl (by decide) c51
                  exfalso; first | omega | ((try (have i_xlp29_3 := Imp.go xlp29_3 (by omega))); (try (have i_xlp29_2 := Imp.go xlp29_2 (by omega))); (try (have i_t8 := Imp.go t8 (by omega))); (try (have i_t8 := Imp.go t8 (by omega))); (try (have i_xlp29_2 := Imp.go xlp29_2 (by omega))); (try (have i_xlp29_3 := Imp.go xlp29_3 (by omega))); omega)
                · skip
                  have f53 : z44.toInt ≠ 0 := b_neq rfl (by decide) c51
                  refine lv_bipush (v := 6) hx hb dX12_sum_31 (by decide) ?_
                  refine lv_goto (tgt := 38) hx hb dX12_sum_33 (by decide) ?_
                  refine lv_istore_n (lv' := [(1, .int 6), (0, .ref (ad 0))]) hx hb dX12_sum_38 rfl hl (by decide) rfl (fun ls hl => ?_)
                  refine lv_aload_n hx hb dX12_sum_39 rfl (lv_at hl 1 rfl) ?_
                  refine lv_dup hx hb dX12_sum_40 rfl ?_
                  refine va_get (D := D) (ci := 12) (v := .int (V26 0 7)) (C := RX12) (T := TX12) (N := 100) hx hb hg inX12 hown hK hP 0 rfl rfl 7 (by decide) (hg _ w1713) (fun _ h9 => h9) rfl dX12_sum_41 ?_
                  refine lv_iconst (v := 1) hx hb dX12_sum_44 (by decide) ?_
                  refine lv_iadd hx hb dX12_sum_45 ?_
                  refine lv_topi (fun z54 ez54 => ?_)
                  have hz54 : z54.toInt = ((V26 0 7)).toInt + 1 := i_add ez54 rfl (by decide) (by omega)
                  refine va_put (D := D) (ci := 12) (v := .int z54) (ty := tyX12 7) (C := RX12) (T := TX12) (N := 100) hx hb hg inX12 tyX12 tyX12_ok nmX12 hown hK hP hD hS 0 rfl rfl 7 (by decide) (hg _ w1713) (fun _ h9 => h9) rfl (tyX12_ok 7 (by decide)) rfl rfl (Nat.le_of_ble_eq_true rfl) dX12_sum_46 (fun H locs hP hD hS => ?_)
                  obtain ⟨V55, hV55⟩ : ∃ z, z = up2 V26 0 7 z54 := ⟨_, rfl⟩
                  have hP : va_P D vwCl (mw ad kk ks.1 V55 L27) H := by rw [hV55]; exact hP
                  have hD : va_D A (mw ad kk ks.1 V55 L27) := by rw [hV55]; exact hD
                  have hMV55 : rgd bM V55 := hMV26.put hV55 (i_full _)
                  have agV55 : agr [(0, 7), (0, 8), (0, 48), (0, 50)] [35, 36, 37, 38, 45, 46, 47] V V55 := agV26.up hV55 rfl
                  have hr56 : ∀ k, Rc gT (Crun gs (Isum gd :: k)) (Crun (nx s1 1) (Iprod gd :: IsumR gd :: k)) := fun k => Rc.go1 (hq k) (sumR_y gd (Or.inl kd50))
                  have rl57 : RelM V55 L27 bq gn gT (nx s1 1) gl := RelM.n1 rq hV55 (by omega) (by rw [kd50]; decide)
                  have ps58 : (nx s1 1).1 0 = s1.1 0 + 1 := rfl
                  have fz59 := RelM.rg rl57
                  have pq60 : (V55 0 8).toInt = ((V26 0 8)).toInt := congrArg Int32.toInt (up2_k hV55 (by decide))
                  have pq61 : (V55 0 7).toInt = z54.toInt := congrArg Int32.toInt (up2_s hV55)
                  refine lv_aload_n hx hb dX12_sum_49 rfl (lv_at hl 1 rfl) ?_
                  have pq62 : (V55 0 48).toInt = ((V26 0 48)).toInt := congrArg Int32.toInt (up2_k hV55 (by decide))
                  have pq63 : (V55 0 50).toInt = ((V26 0 50)).toInt := congrArg Int32.toInt (up2_k hV55 (by decide))
                  refine gA_void (gA_runV (As := []) (rest := []) (ci := 12) (q0 := 0) hx hb hml hown hg hP hD hK hS hA hnw hgk (hk_s_productA H.size ad kk V55 L27 (bq) (gn) (gT) ((nx s1 1)) (gl) (gd) hMV55 rl57 (show (V55 0 48).toInt ≤ 2 * (V55 0 7).toInt from by first | omega | ((try (have i_xlp29_3 := Imp.go xlp29_3 (by omega))); (try (have i_xlp29_2 := Imp.go xlp29_2 (by omega))); (try (have i_t8 := Imp.go t8 (by omega))); (try (have i_t8 := Imp.go t8 (by omega))); (try (have i_xlp29_2 := Imp.go xlp29_2 (by omega))); (try (have i_xlp29_3 := Imp.go xlp29_3 (by omega))); omega)) (show (V55 0 50).toInt = ((gd) : Int) from by first | omega | ((try (have i_xlp29_3 := Imp.go xlp29_3 (by omega))); (try (have i_xlp29_2 := Imp.go xlp29_2 (by omega))); (try (have i_t8 := Imp.go t8 (by omega))); (try (have i_t8 := Imp.go t8 (by omega))); (try (have i_xlp29_2 := Imp.go xlp29_2 (by omega))); (try (have i_xlp29_3 := Imp.go xlp29_3 (by omega))); omega)) (show (V55 0 50).toInt + (dd : Int) = 8 from by first | omega | ((try (have i_xlp29_3 := Imp.go xlp29_3 (by omega))); (try (have i_xlp29_2 := Imp.go xlp29_2 (by omega))); (try (have i_t8 := Imp.go t8 (by omega))); (try (have i_t8 := Imp.go t8 (by omega))); (try (have i_xlp29_2 := Imp.go xlp29_2 (by omega))); (try (have i_xlp29_3 := Imp.go xlp29_3 (by omega))); omega)) (EM.mv em ((up2_k hV55 (by decide)).trans ((ajV26 0 51 rfl).trans (ajV13 0 51 rfl))) ((up2_k hV55 (by decide)).trans ((ajV26 0 52 rfl).trans (ajV13 0 52 rfl))) (by rw [(up2_fo hV55 (by decide) : V55 27 = V26 27), (funext (fun q => ajV26 27 q rfl) : V26 27 = V13 27), (funext (fun q => ajV13 27 q rfl) : V13 27 = V 27)] : V55 27 = V 27) ((keepS.tr (keepS.tr (keepS.rf : keepS gs 0 gs) kq) (keepS.n1 1))).2.1)) w2124 w2126 w108 w172 w2127 rfl rfl hdV_yX12_product ⟨(by show 10 * dd + 11 + 1 ≤ 10 * dd + 12; omega), (by show 8 + (2 + 11) + (300 * dd + 340) ≤ 300 * dd + 380; omega)⟩ rfl hl.1 rfl (Nat.le_of_ble_eq_true rfl) dX12_sum_50 ⟨Nat.le_of_ble_eq_true rfl, Nat.le_of_ble_eq_true rfl⟩) hP hD hK hS hA (fun u65 H locs w66 hP hD hK hS => ?_)
                  obtain ⟨V72, L73⟩ := u65
                  obtain ⟨hMV72, ajV72, axL73, t67, t68, t69, t70, t71⟩ := w66
                  have alL73 : agL [35, 36, 37, 38, 45, 46, 47] L L73 := agL.tr alL27 axL73 (by decide)
                  have hP : va_P D vwCl (mw ad kk ks.1 V72 L73) H := hP
                  have hD : va_D A (mw ad kk ks.1 V72 L73) := hD
                  have hMV72 : rgd bM V72 := hMV72
                  have ajV72 : agr [(0, 7), (0, 8), (0, 48), (0, 50)] [35, 36, 37, 38, 45, 46, 47] V55 V72 := ajV72
                  have agV72 : agr [(0, 7), (0, 8), (0, 48), (0, 50)] [35, 36, 37, 38, 45, 46, 47] V V72 := agV55.tr ajV72 (by decide) (by decide)
                  have t67 : Imp ((V72 0 8).toInt = 0) ((V72 0 48).toInt - (V55 0 48).toInt ≤ 2 * ((V72 0 7).toInt - (V55 0 7).toInt)) := t67
                  have t68 : (V72 0 48).toInt ≤ 8049 - 6 * (V55 0 50).toInt := t68
                  have t69 : (V72 0 50).toInt = (V55 0 50).toInt := t69
                  have t70 : (V55 0 48).toInt ≤ (V72 0 48).toInt := t70
                  have t71 : RdM (gT) ((nx s1 1)) (fun k => Iprod (gd) :: k) (fun k => k) (V72 0 8).toInt (fun s9 => RelM V72 L73 (bq) (gn) (gT) s9 (gl) ∧ keepS ((nx s1 1)) 1 s9) := t71
                  have r74 : 0 ≤ ((V72 0 48)).toInt ∧ ((V72 0 48)).toInt ≤ 10000 := hMV72 0 48
                  have r75 : 0 ≤ ((V72 0 8)).toInt ∧ ((V72 0 8)).toInt ≤ 70000 := hMV72 0 8
                  have r76 : 0 ≤ ((V72 0 50)).toInt ∧ ((V72 0 50)).toInt ≤ 9 := hMV72 0 50
                  rcases t71 with ⟨q77, sx78, h79, rl80, kp81⟩ | ⟨q77, h79⟩
                  · skip
                    have hr82 : ∀ k, Rc gT (Crun gs (Isum gd :: k)) (Crun sx78 (IsumR gd :: k)) := fun k => (hr56 k).tr (h79 (IsumR gd :: k))
                    have fz83 := RelM.rg rl80
                    have ps84 := (kp81).1
                    refine lv_aload_n hx hb dX12_sum_53 rfl (lv_at hl 1 rfl) ?_
                    refine lv_iload_n hx hb dX12_sum_54 rfl (lv_at hl 0 rfl) ?_
                    refine lv_iconst (v := 0) hx hb dX12_sum_55 (by decide) ?_
                    refine lv_iconst (v := 0) hx hb dX12_sum_56 (by decide) ?_
                    have r85 : Int32.toInt 6 = 6 := by decide
                    have r86 : Int32.toInt 0 = 0 := by decide
                    refine gA_int (gA_runV (As := [.int 6, .int 0, .int 0]) (rest := []) (ci := 12) (q0 := 0) hx hb hml hown hg hP hD hK hS hA hnw hgk (s_emit3 l D ks H.size ad kk V72 L73 6 0 0 hMV72 (show (V72 0 48).toInt ≤ 9999 from by first | omega | ((try (have i_t67 := Imp.go t67 (by omega))); (try (have i_xlp29_3 := Imp.go xlp29_3 (by omega))); (try (have i_xlp29_2 := Imp.go xlp29_2 (by omega))); (try (have i_t8 := Imp.go t8 (by omega))); (try (have i_t8 := Imp.go t8 (by omega))); (try (have i_xlp29_2 := Imp.go xlp29_2 (by omega))); (try (have i_xlp29_3 := Imp.go xlp29_3 (by omega))); (try (have i_t67 := Imp.go t67 (by omega))); omega))) w2136 w2138 w111 w172 w2139 rfl rfl hdV_yX12_emit ⟨(by show 0 + 1 ≤ 10 * dd + 12; omega), (by show 8 + (4 + 11) + (0) ≤ 300 * dd + 380; omega)⟩ rfl hl.1 rfl (Nat.le_of_ble_eq_true rfl) dX12_sum_57 ⟨Nat.le_of_ble_eq_true rfl, Nat.le_of_ble_eq_true rfl⟩) hP hD hK hS hA (fun z87 u88 H locs w89 hP hD hK hS => ?_)
                    obtain ⟨V93, L94⟩ := u88
                    obtain ⟨hMV93, ajV93, axL94, rgz87, t90, t91, t92⟩ := w89
                    have axL94 : L73 = L94 := Eq.symm axL94
                    subst axL94
                    have hP : va_P D vwCl (mw ad kk ks.1 V93 L73) H := hP
                    have hD : va_D A (mw ad kk ks.1 V93 L73) := hD
                    have hMV93 : rgd bM V93 := hMV93
                    have ajV93 : agr [(0, 48)] [45, 46, 47] V72 V93 := ajV93
                    have agV93 : agr [(0, 7), (0, 8), (0, 48), (0, 50)] [35, 36, 37, 38, 45, 46, 47] V V93 := agV72.tr ajV93 (by decide) (by decide)
                    have rgz87 : 0 ≤ z87.toInt ∧ z87.toInt ≤ 20000 := rgz87
                    have t90 : (V93 0 48).toInt = (V72 0 48).toInt + 1 := t90
                    have t91 : z87.toInt = (V72 0 49).toInt + (V72 0 48).toInt := t91
                    have t92 : emitted V72 V93 (pA V72) 6 0 0 := t92
                    have r95 : 0 ≤ ((V93 0 48)).toInt ∧ ((V93 0 48)).toInt ≤ 10000 := hMV93 0 48
                    have pq96 : (V72 0 49).toInt = ((V 0 49)).toInt := congrArg Int32.toInt ((ajV72 0 49 rfl).trans ((up2_k hV55 (by decide)).trans ((ajV26 0 49 rfl).trans (ajV13 0 49 rfl))))
                    have r97 : 0 ≤ ((V 0 49)).toInt ∧ ((V 0 49)).toInt ≤ 10000 := hMV 0 49
                    refine lv_istore_n (lv' := [(2, .int z87), (1, .int 6), (0, .ref (ad 0))]) hx hb dX12_sum_60 rfl hl (by decide) rfl (fun ls hl => ?_)
                    refine lv_goto (tgt := 4) hx hb dX12_sum_61 (by decide) ?_
                    have pq98 : (V93 0 7).toInt = ((V72 0 7)).toInt := congrArg Int32.toInt (ajV93 0 7 rfl)
                    have pq99 : (V93 0 8).toInt = ((V72 0 8)).toInt := congrArg Int32.toInt (ajV93 0 8 rfl)
                    have pq100 : (V93 0 50).toInt = ((V72 0 50)).toInt := congrArg Int32.toInt (ajV93 0 50 rfl)
                    have rl101 : RelM V93 L73 bq gn gT sx78 gl := RelM.ag rl80 (show agr [(0, 48)] [45, 46, 47] V72 V93 from (agr.tr agr.rf ajV93 (by decide) (by decide))) (by decide) (show agL [] L73 L73 from agL.rf) (by decide)
                    exact ihlp29 (g28 - 1) V93 L73 H locs ls (Or.inl ⟨W0 rl101, sx78, hr82, rl101, keepS.le (keepS.tr (keepS.tr (keepS.tr (keepS.rf : keepS gs 0 gs) kq) (keepS.n1 1)) kp81) (by decide)⟩) (show 0 ≤ (g28 - 1) from by first | omega | ((try (have i_t67 := Imp.go t67 (by omega))); (try (have i_xlp29_3 := Imp.go xlp29_3 (by omega))); (try (have i_xlp29_2 := Imp.go xlp29_2 (by omega))); (try (have i_t8 := Imp.go t8 (by omega))); (try (have i_t8 := Imp.go t8 (by omega))); (try (have i_xlp29_2 := Imp.go xlp29_2 (by omega))); (try (have i_xlp29_3 := Imp.go xlp29_3 (by omega))); (try (have i_t67 := Imp.go t67 (by omega))); omega)) (Imp.mk (fun hp => have hp : (V93 0 8).toInt = 0 := hp; (show (gn : Int) - (V93 0 7).toInt < (g28 - 1) from by first | omega | ((try (have i_t67 := Imp.go t67 (by omega))); (try (have i_xlp29_3 := Imp.go xlp29_3 (by omega))); (try (have i_xlp29_2 := Imp.go xlp29_2 (by omega))); (try (have i_t8 := Imp.go t8 (by omega))); (try (have i_t8 := Imp.go t8 (by omega))); (try (have i_xlp29_2 := Imp.go xlp29_2 (by omega))); (try (have i_xlp29_3 := Imp.go xlp29_3 (by omega))); (try (have i_t67 := Imp.go t67 (by omega))); omega)))) (Imp.mk (fun hp => have hp : (V93 0 8).toInt = 0 := hp; (show (V93 0 48).toInt - (V 0 48).toInt ≤ 2 * ((V93 0 7).toInt - (V 0 7).toInt) from by first | omega | ((try (have i_t67 := Imp.go t67 (by omega))); (try (have i_xlp29_3 := Imp.go xlp29_3 (by omega))); (try (have i_xlp29_2 := Imp.go xlp29_2 (by omega))); (try (have i_t8 := Imp.go t8 (by omega))); (try (have i_t8 := Imp.go t8 (by omega))); (try (have i_xlp29_2 := Imp.go xlp29_2 (by omega))); (try (have i_xlp29_3 := Imp.go xlp29_3 (by omega))); (try (have i_t67 := Imp.go t67 (by omega))); omega)))) (show (V93 0 48).toInt ≤ 8050 - 6 * (V 0 50).toInt from by first | omega | ((try (have i_t67 := Imp.go t67 (by omega))); (try (have i_xlp29_3 := Imp.go xlp29_3 (by omega))); (try (have i_xlp29_2 := Imp.go xlp29_2 (by omega))); (try (have i_t8 := Imp.go t8 (by omega))); (try (have i_t8 := Imp.go t8 (by omega))); (try (have i_xlp29_2 := Imp.go xlp29_2 (by omega))); (try (have i_xlp29_3 := Imp.go xlp29_3 (by omega))); (try (have i_t67 := Imp.go t67 (by omega))); omega)) (show (V93 0 50).toInt = (V 0 50).toInt from by first | omega | ((try (have i_t67 := Imp.go t67 (by omega))); (try (have i_xlp29_3 := Imp.go xlp29_3 (by omega))); (try (have i_xlp29_2 := Imp.go xlp29_2 (by omega))); (try (have i_t8 := Imp.go t8 (by omega))); (try (have i_t8 := Imp.go t8 (by omega))); (try (have i_xlp29_2 := Imp.go xlp29_2 (by omega))); (try (have i_xlp29_3 := Imp.go xlp29_3 (by omega))); (try (have i_t67 := Imp.go t67 (by omega))); omega)) (show (V 0 48).toInt ≤ (V93 0 48).toInt from by first | omega | ((try (have i_t67 := Imp.go t67 (by omega))); (try (have i_xlp29_3 := Imp.go xlp29_3 (by omega))); (try (have i_xlp29_2 := Imp.go xlp29_2 (by omega))); (try (have i_t8 := Imp.go t8 (by omega))); (try (have i_t8 := Imp.go t8 (by omega))); (try (have i_xlp29_2 := Imp.go xlp29_2 (by omega))); (try (have i_xlp29_3 := Imp.go xlp29_3 (by omega))); (try (have i_t67 := Imp.go t67 (by omega))); omega)) (by first | omega | ((try (have i_t67 := Imp.go t67 (by omega))); (try (have i_xlp29_3 := Imp.go xlp29_3 (by omega))); (try (have i_xlp29_2 := Imp.go xlp29_2 (by omega))); (try (have i_t8 := Imp.go t8 (by omega))); (try (have i_t8 := Imp.go t8 (by omega))); (try (have i_xlp29_2 := Imp.go xlp29_2 (by omega))); (try (have i_xlp29_3 := Imp.go xlp29_3 (by omega))); (try (have i_t67 := Imp.go t67 (by omega))); omega)) alL73 (agr.tr (agr.tr (agr.up (agr.tr agr.rf ajV26 (by decide) (by decide)) hV55 rfl) ajV72 (by decide) (by decide)) ajV93 (by decide) (by decide)) hMV93 hP hD hS (lv_sub hl [2] rfl)
                  · skip
                    have hb102 : ∀ k, Rc gT (Crun gs (Isum gd :: k)) (Cbad (V72 0 8).toInt) := fun k => (hr56 k).tr (h79 (IsumR gd :: k))
                    refine lv_aload_n hx hb dX12_sum_53 rfl (lv_at hl 1 rfl) ?_
                    refine lv_iload_n hx hb dX12_sum_54 rfl (lv_at hl 0 rfl) ?_
                    refine lv_iconst (v := 0) hx hb dX12_sum_55 (by decide) ?_
                    refine lv_iconst (v := 0) hx hb dX12_sum_56 (by decide) ?_
                    have r103 : Int32.toInt 6 = 6 := by decide
                    have r104 : Int32.toInt 0 = 0 := by decide
                    refine gA_int (gA_runV (As := [.int 6, .int 0, .int 0]) (rest := []) (ci := 12) (q0 := 0) hx hb hml hown hg hP hD hK hS hA hnw hgk (s_emit3 l D ks H.size ad kk V72 L73 6 0 0 hMV72 (show (V72 0 48).toInt ≤ 9999 from by first | omega | ((try (have i_t67 := Imp.go t67 (by omega))); (try (have i_xlp29_3 := Imp.go xlp29_3 (by omega))); (try (have i_xlp29_2 := Imp.go xlp29_2 (by omega))); (try (have i_t8 := Imp.go t8 (by omega))); (try (have i_t8 := Imp.go t8 (by omega))); (try (have i_xlp29_2 := Imp.go xlp29_2 (by omega))); (try (have i_xlp29_3 := Imp.go xlp29_3 (by omega))); (try (have i_t67 := Imp.go t67 (by omega))); omega))) w2136 w2138 w111 w172 w2139 rfl rfl hdV_yX12_emit ⟨(by show 0 + 1 ≤ 10 * dd + 12; omega), (by show 8 + (4 + 11) + (0) ≤ 300 * dd + 380; omega)⟩ rfl hl.1 rfl (Nat.le_of_ble_eq_true rfl) dX12_sum_57 ⟨Nat.le_of_ble_eq_true rfl, Nat.le_of_ble_eq_true rfl⟩) hP hD hK hS hA (fun z105 u106 H locs w107 hP hD hK hS => ?_)
                    obtain ⟨V111, L112⟩ := u106
                    obtain ⟨hMV111, ajV111, axL112, rgz105, t108, t109, t110⟩ := w107
                    have axL112 : L73 = L112 := Eq.symm axL112
                    subst axL112
                    have hP : va_P D vwCl (mw ad kk ks.1 V111 L73) H := hP
                    have hD : va_D A (mw ad kk ks.1 V111 L73) := hD
                    have hMV111 : rgd bM V111 := hMV111
                    have ajV111 : agr [(0, 48)] [45, 46, 47] V72 V111 := ajV111
                    have agV111 : agr [(0, 7), (0, 8), (0, 48), (0, 50)] [35, 36, 37, 38, 45, 46, 47] V V111 := agV72.tr ajV111 (by decide) (by decide)
                    have rgz105 : 0 ≤ z105.toInt ∧ z105.toInt ≤ 20000 := rgz105
                    have t108 : (V111 0 48).toInt = (V72 0 48).toInt + 1 := t108
                    have t109 : z105.toInt = (V72 0 49).toInt + (V72 0 48).toInt := t109
                    have t110 : emitted V72 V111 (pA V72) 6 0 0 := t110
                    have r113 : 0 ≤ ((V111 0 48)).toInt ∧ ((V111 0 48)).toInt ≤ 10000 := hMV111 0 48
                    have pq114 : (V72 0 49).toInt = ((V 0 49)).toInt := congrArg Int32.toInt ((ajV72 0 49 rfl).trans ((up2_k hV55 (by decide)).trans ((ajV26 0 49 rfl).trans (ajV13 0 49 rfl))))
                    have r115 : 0 ≤ ((V 0 49)).toInt ∧ ((V 0 49)).toInt ≤ 10000 := hMV 0 49
                    refine lv_istore_n (lv' := [(2, .int z105), (1, .int 6), (0, .ref (ad 0))]) hx hb dX12_sum_60 rfl hl (by decide) rfl (fun ls hl => ?_)
                    refine lv_goto (tgt := 4) hx hb dX12_sum_61 (by decide) ?_
                    have pq116 : (V111 0 7).toInt = ((V72 0 7)).toInt := congrArg Int32.toInt (ajV111 0 7 rfl)
                    have pq117 : (V111 0 8).toInt = ((V72 0 8)).toInt := congrArg Int32.toInt (ajV111 0 8 rfl)
                    have pq118 : (V111 0 50).toInt = ((V72 0 50)).toInt := congrArg Int32.toInt (ajV111 0 50 rfl)
                    exact ihlp29 (g28 - 1) V111 L73 H locs ls (Or.inr ⟨(show 1 ≤ (V111 0 8).toInt from by omega), (fun k => by rw [show (V111 0 8).toInt = (V72 0 8).toInt from by omega]; exact hb102 k)⟩) (show 0 ≤ (g28 - 1) from by first | omega | ((try (have i_t67 := Imp.go t67 (by omega))); (try (have i_xlp29_3 := Imp.go xlp29_3 (by omega))); (try (have i_xlp29_2 := Imp.go xlp29_2 (by omega))); (try (have i_t8 := Imp.go t8 (by omega))); (try (have i_t8 := Imp.go t8 (by omega))); (try (have i_xlp29_2 := Imp.go xlp29_2 (by omega))); (try (have i_xlp29_3 := Imp.go xlp29_3 (by omega))); (try (have i_t67 := Imp.go t67 (by omega))); omega)) (Imp.mk (fun hp => have hp : (V111 0 8).toInt = 0 := hp; (show (gn : Int) - (V111 0 7).toInt < (g28 - 1) from by first | omega | ((try (have i_t67 := Imp.go t67 (by omega))); (try (have i_xlp29_3 := Imp.go xlp29_3 (by omega))); (try (have i_xlp29_2 := Imp.go xlp29_2 (by omega))); (try (have i_t8 := Imp.go t8 (by omega))); (try (have i_t8 := Imp.go t8 (by omega))); (try (have i_xlp29_2 := Imp.go xlp29_2 (by omega))); (try (have i_xlp29_3 := Imp.go xlp29_3 (by omega))); (try (have i_t67 := Imp.go t67 (by omega))); omega)))) (Imp.mk (fun hp => have hp : (V111 0 8).toInt = 0 := hp; (show (V111 0 48).toInt - (V 0 48).toInt ≤ 2 * ((V111 0 7).toInt - (V 0 7).toInt) from by first | omega | ((try (have i_t67 := Imp.go t67 (by omega))); (try (have i_xlp29_3 := Imp.go xlp29_3 (by omega))); (try (have i_xlp29_2 := Imp.go xlp29_2 (by omega))); (try (have i_t8 := Imp.go t8 (by omega))); (try (have i_t8 := Imp.go t8 (by omega))); (try (have i_xlp29_2 := Imp.go xlp29_2 (by omega))); (try (have i_xlp29_3 := Imp.go xlp29_3 (by omega))); (try (have i_t67 := Imp.go t67 (by omega))); omega)))) (show (V111 0 48).toInt ≤ 8050 - 6 * (V 0 50).toInt from by first | omega | ((try (have i_t67 := Imp.go t67 (by omega))); (try (have i_xlp29_3 := Imp.go xlp29_3 (by omega))); (try (have i_xlp29_2 := Imp.go xlp29_2 (by omega))); (try (have i_t8 := Imp.go t8 (by omega))); (try (have i_t8 := Imp.go t8 (by omega))); (try (have i_xlp29_2 := Imp.go xlp29_2 (by omega))); (try (have i_xlp29_3 := Imp.go xlp29_3 (by omega))); (try (have i_t67 := Imp.go t67 (by omega))); omega)) (show (V111 0 50).toInt = (V 0 50).toInt from by first | omega | ((try (have i_t67 := Imp.go t67 (by omega))); (try (have i_xlp29_3 := Imp.go xlp29_3 (by omega))); (try (have i_xlp29_2 := Imp.go xlp29_2 (by omega))); (try (have i_t8 := Imp.go t8 (by omega))); (try (have i_t8 := Imp.go t8 (by omega))); (try (have i_xlp29_2 := Imp.go xlp29_2 (by omega))); (try (have i_xlp29_3 := Imp.go xlp29_3 (by omega))); (try (have i_t67 := Imp.go t67 (by omega))); omega)) (show (V 0 48).toInt ≤ (V111 0 48).toInt from by first | omega | ((try (have i_t67 := Imp.go t67 (by omega))); (try (have i_xlp29_3 := Imp.go xlp29_3 (by omega))); (try (have i_xlp29_2 := Imp.go xlp29_2 (by omega))); (try (have i_t8 := Imp.go t8 (by omega))); (try (have i_t8 := Imp.go t8 (by omega))); (try (have i_xlp29_2 := Imp.go xlp29_2 (by omega))); (try (have i_xlp29_3 := Imp.go xlp29_3 (by omega))); (try (have i_t67 := Imp.go t67 (by omega))); omega)) (by first | omega | ((try (have i_t67 := Imp.go t67 (by omega))); (try (have i_xlp29_3 := Imp.go xlp29_3 (by omega))); (try (have i_xlp29_2 := Imp.go xlp29_2 (by omega))); (try (have i_t8 := Imp.go t8 (by omega))); (try (have i_t8 := Imp.go t8 (by omega))); (try (have i_xlp29_2 := Imp.go xlp29_2 (by omega))); (try (have i_xlp29_3 := Imp.go xlp29_3 (by omega))); (try (have i_t67 := Imp.go t67 (by omega))); omega)) alL73 (agr.tr (agr.tr (agr.up (agr.tr agr.rf ajV26 (by decide) (by decide)) hV55 rfl) ajV72 (by decide) (by decide)) ajV111 (by decide) (by decide)) hMV111 hP hD hS (lv_sub hl [2] rfl)
              · skip
                have kd119 : gT.1 (s1.1 0) ≠ 43 := fun h9 => h49 (h9.trans (by decide))
                exact absurd kd41 kd119
            · skip
              have f120 : z35.toInt = 0 := b_eq rfl (by decide) c42
              exfalso; first | omega | ((try (have i_xlp29_3 := Imp.go xlp29_3 (by omega))); (try (have i_xlp29_2 := Imp.go xlp29_2 (by omega))); (try (have i_t8 := Imp.go t8 (by omega))); (try (have i_t8 := Imp.go t8 (by omega))); (try (have i_xlp29_2 := Imp.go xlp29_2 (by omega))); (try (have i_xlp29_3 := Imp.go xlp29_3 (by omega))); omega)
          · skip
            have kd121 : gT.1 (s1.1 0) ≠ 43 := fun h9 => h40 (h9.trans (by decide))
            refine lv_if_ne (tgt := 22) hx hb dX12_sum_10 (by decide) (fun c122 => ?_) (fun c122 => ?_)
            · skip
              have f123 : z35.toInt ≠ 0 := b_neq rfl (by decide) c122
              exfalso; first | omega | ((try (have i_xlp29_3 := Imp.go xlp29_3 (by omega))); (try (have i_xlp29_2 := Imp.go xlp29_2 (by omega))); (try (have i_t8 := Imp.go t8 (by omega))); (try (have i_t8 := Imp.go t8 (by omega))); (try (have i_xlp29_2 := Imp.go xlp29_2 (by omega))); (try (have i_xlp29_3 := Imp.go xlp29_3 (by omega))); omega)
            · skip
              have f124 : z35.toInt = 0 := b_eq rfl (by decide) c122
              refine lv_aload_n hx hb dX12_sum_13 rfl (lv_at hl 0 rfl) ?_
              refine lv_bipush (v := 45) hx hb dX12_sum_14 (by decide) ?_
              have r125 : Int32.toInt 45 = 45 := by decide
              refine gA_int (gA_runV (As := [.int 45]) (rest := []) (ci := 12) (q0 := 0) hx hb hml hown hg hP hD hK hS hA hnw hgk (s_isSignA l D ks H.size ad kk V26 L27 45 (bq) (gn) (gT) (s1) (gl) hMV26 rq (sg_yes (j := 45) (by decide) (by decide) (by decide))) w2071 w2073 w95 w172 w2074 rfl rfl hdV_yX12_isSign ⟨(by show 0 + 1 ≤ 10 * dd + 12; omega), (by show 8 + (2 + 11) + (0) ≤ 300 * dd + 380; omega)⟩ rfl hl.1 rfl (Nat.le_of_ble_eq_true rfl) dX12_sum_16 ⟨Nat.le_of_ble_eq_true rfl, Nat.le_of_ble_eq_true rfl⟩) hP hD hK hS hA (fun z126 u127 H locs w128 hP hD hK hS => ?_)
              obtain ⟨rgz126, t129⟩ := w128
              have rgz126 : 0 ≤ z126.toInt ∧ z126.toInt ≤ 1 := rgz126
              have t129 : (z126.toInt = 1 ∧ (gT).1 ((s1).1 0) = (Int32.toInt 45)) ∨ (z126.toInt = 0 ∧ (gT).1 ((s1).1 0) ≠ (Int32.toInt 45)) := t129
              rcases t129 with ⟨q130, h131⟩ | ⟨q130, h131⟩
              · skip
                have kd132 : gT.1 (s1.1 0) = 45 := h131.trans (by decide)
                refine lv_if_eq (tgt := 64) hx hb dX12_sum_19 (by decide) (fun c133 => ?_) (fun c133 => ?_)
                · skip
                  have f134 : z126.toInt = 0 := b_eq rfl (by decide) c133
                  exfalso; first | omega | ((try (have i_xlp29_3 := Imp.go xlp29_3 (by omega))); (try (have i_xlp29_2 := Imp.go xlp29_2 (by omega))); (try (have i_t8 := Imp.go t8 (by omega))); (try (have i_t8 := Imp.go t8 (by omega))); (try (have i_xlp29_2 := Imp.go xlp29_2 (by omega))); (try (have i_xlp29_3 := Imp.go xlp29_3 (by omega))); omega)
                · skip
                  have f135 : z126.toInt ≠ 0 := b_neq rfl (by decide) c133
                  refine lv_aload_n hx hb dX12_sum_22 rfl (lv_at hl 0 rfl) ?_
                  refine lv_bipush (v := 43) hx hb dX12_sum_23 (by decide) ?_
                  refine gA_int (gA_runV (As := [.int 43]) (rest := []) (ci := 12) (q0 := 0) hx hb hml hown hg hP hD hK hS hA hnw hgk (s_isSignA l D ks H.size ad kk V26 L27 43 (bq) (gn) (gT) (s1) (gl) hMV26 rq (sg_yes (j := 43) (by decide) (by decide) (by decide))) w2071 w2073 w95 w172 w2074 rfl rfl hdV_yX12_isSign ⟨(by show 0 + 1 ≤ 10 * dd + 12; omega), (by show 8 + (2 + 11) + (0) ≤ 300 * dd + 380; omega)⟩ rfl hl.1 rfl (Nat.le_of_ble_eq_true rfl) dX12_sum_25 ⟨Nat.le_of_ble_eq_true rfl, Nat.le_of_ble_eq_true rfl⟩) hP hD hK hS hA (fun z136 u137 H locs w138 hP hD hK hS => ?_)
                  obtain ⟨rgz136, t139⟩ := w138
                  have rgz136 : 0 ≤ z136.toInt ∧ z136.toInt ≤ 1 := rgz136
                  have t139 : (z136.toInt = 1 ∧ (gT).1 ((s1).1 0) = (Int32.toInt 43)) ∨ (z136.toInt = 0 ∧ (gT).1 ((s1).1 0) ≠ (Int32.toInt 43)) := t139
                  rcases t139 with ⟨q140, h141⟩ | ⟨q140, h141⟩
                  · skip
                    have kd142 : gT.1 (s1.1 0) = 43 := h141.trans (by decide)
                    exact absurd (kd132.symm.trans kd142) (by decide)
                  · skip
                    have kd143 : gT.1 (s1.1 0) ≠ 43 := fun h9 => h141 (h9.trans (by decide))
                    refine lv_if_eq (tgt := 36) hx hb dX12_sum_28 (by decide) (fun c144 => ?_) (fun c144 => ?_)
                    · skip
                      have f145 : z136.toInt = 0 := b_eq rfl (by decide) c144
                      refine lv_bipush (v := 7) hx hb dX12_sum_36 (by decide) ?_
                      refine lv_istore_n (lv' := [(1, .int 7), (0, .ref (ad 0))]) hx hb dX12_sum_38 rfl hl (by decide) rfl (fun ls hl => ?_)
                      refine lv_aload_n hx hb dX12_sum_39 rfl (lv_at hl 1 rfl) ?_
                      refine lv_dup hx hb dX12_sum_40 rfl ?_
                      refine va_get (D := D) (ci := 12) (v := .int (V26 0 7)) (C := RX12) (T := TX12) (N := 100) hx hb hg inX12 hown hK hP 0 rfl rfl 7 (by decide) (hg _ w1713) (fun _ h9 => h9) rfl dX12_sum_41 ?_
                      refine lv_iconst (v := 1) hx hb dX12_sum_44 (by decide) ?_
                      refine lv_iadd hx hb dX12_sum_45 ?_
                      refine lv_topi (fun z146 ez146 => ?_)
                      have hz146 : z146.toInt = ((V26 0 7)).toInt + 1 := i_add ez146 rfl (by decide) (by omega)
                      refine va_put (D := D) (ci := 12) (v := .int z146) (ty := tyX12 7) (C := RX12) (T := TX12) (N := 100) hx hb hg inX12 tyX12 tyX12_ok nmX12 hown hK hP hD hS 0 rfl rfl 7 (by decide) (hg _ w1713) (fun _ h9 => h9) rfl (tyX12_ok 7 (by decide)) rfl rfl (Nat.le_of_ble_eq_true rfl) dX12_sum_46 (fun H locs hP hD hS => ?_)
                      obtain ⟨V147, hV147⟩ : ∃ z, z = up2 V26 0 7 z146 := ⟨_, rfl⟩
                      have hP : va_P D vwCl (mw ad kk ks.1 V147 L27) H := by rw [hV147]; exact hP
                      have hD : va_D A (mw ad kk ks.1 V147 L27) := by rw [hV147]; exact hD
                      have hMV147 : rgd bM V147 := hMV26.put hV147 (i_full _)
                      have agV147 : agr [(0, 7), (0, 8), (0, 48), (0, 50)] [35, 36, 37, 38, 45, 46, 47] V V147 := agV26.up hV147 rfl
                      have hr148 : ∀ k, Rc gT (Crun gs (Isum gd :: k)) (Crun (nx s1 1) (Iprod gd :: IsumR gd :: k)) := fun k => Rc.go1 (hq k) (sumR_y gd (Or.inr kd132))
                      have rl149 : RelM V147 L27 bq gn gT (nx s1 1) gl := RelM.n1 rq hV147 (by omega) (by rw [kd132]; decide)
                      have ps150 : (nx s1 1).1 0 = s1.1 0 + 1 := rfl
                      have fz151 := RelM.rg rl149
                      have pq152 : (V147 0 8).toInt = ((V26 0 8)).toInt := congrArg Int32.toInt (up2_k hV147 (by decide))
                      have pq153 : (V147 0 7).toInt = z146.toInt := congrArg Int32.toInt (up2_s hV147)
                      refine lv_aload_n hx hb dX12_sum_49 rfl (lv_at hl 1 rfl) ?_
                      have pq154 : (V147 0 48).toInt = ((V26 0 48)).toInt := congrArg Int32.toInt (up2_k hV147 (by decide))
                      have pq155 : (V147 0 50).toInt = ((V26 0 50)).toInt := congrArg Int32.toInt (up2_k hV147 (by decide))
                      refine gA_void (gA_runV (As := []) (rest := []) (ci := 12) (q0 := 0) hx hb hml hown hg hP hD hK hS hA hnw hgk (hk_s_productA H.size ad kk V147 L27 (bq) (gn) (gT) ((nx s1 1)) (gl) (gd) hMV147 rl149 (show (V147 0 48).toInt ≤ 2 * (V147 0 7).toInt from by first | omega | ((try (have i_xlp29_3 := Imp.go xlp29_3 (by omega))); (try (have i_xlp29_2 := Imp.go xlp29_2 (by omega))); (try (have i_t8 := Imp.go t8 (by omega))); (try (have i_t8 := Imp.go t8 (by omega))); (try (have i_xlp29_2 := Imp.go xlp29_2 (by omega))); (try (have i_xlp29_3 := Imp.go xlp29_3 (by omega))); omega)) (show (V147 0 50).toInt = ((gd) : Int) from by first | omega | ((try (have i_xlp29_3 := Imp.go xlp29_3 (by omega))); (try (have i_xlp29_2 := Imp.go xlp29_2 (by omega))); (try (have i_t8 := Imp.go t8 (by omega))); (try (have i_t8 := Imp.go t8 (by omega))); (try (have i_xlp29_2 := Imp.go xlp29_2 (by omega))); (try (have i_xlp29_3 := Imp.go xlp29_3 (by omega))); omega)) (show (V147 0 50).toInt + (dd : Int) = 8 from by first | omega | ((try (have i_xlp29_3 := Imp.go xlp29_3 (by omega))); (try (have i_xlp29_2 := Imp.go xlp29_2 (by omega))); (try (have i_t8 := Imp.go t8 (by omega))); (try (have i_t8 := Imp.go t8 (by omega))); (try (have i_xlp29_2 := Imp.go xlp29_2 (by omega))); (try (have i_xlp29_3 := Imp.go xlp29_3 (by omega))); omega)) (EM.mv em ((up2_k hV147 (by decide)).trans ((ajV26 0 51 rfl).trans (ajV13 0 51 rfl))) ((up2_k hV147 (by decide)).trans ((ajV26 0 52 rfl).trans (ajV13 0 52 rfl))) (by rw [(up2_fo hV147 (by decide) : V147 27 = V26 27), (funext (fun q => ajV26 27 q rfl) : V26 27 = V13 27), (funext (fun q => ajV13 27 q rfl) : V13 27 = V 27)] : V147 27 = V 27) ((keepS.tr (keepS.tr (keepS.rf : keepS gs 0 gs) kq) (keepS.n1 1))).2.1)) w2124 w2126 w108 w172 w2127 rfl rfl hdV_yX12_product ⟨(by show 10 * dd + 11 + 1 ≤ 10 * dd + 12; omega), (by show 8 + (2 + 11) + (300 * dd + 340) ≤ 300 * dd + 380; omega)⟩ rfl hl.1 rfl (Nat.le_of_ble_eq_true rfl) dX12_sum_50 ⟨Nat.le_of_ble_eq_true rfl, Nat.le_of_ble_eq_true rfl⟩) hP hD hK hS hA (fun u157 H locs w158 hP hD hK hS => ?_)
                      obtain ⟨V164, L165⟩ := u157
                      obtain ⟨hMV164, ajV164, axL165, t159, t160, t161, t162, t163⟩ := w158
                      have alL165 : agL [35, 36, 37, 38, 45, 46, 47] L L165 := agL.tr alL27 axL165 (by decide)
                      have hP : va_P D vwCl (mw ad kk ks.1 V164 L165) H := hP
                      have hD : va_D A (mw ad kk ks.1 V164 L165) := hD
                      have hMV164 : rgd bM V164 := hMV164
                      have ajV164 : agr [(0, 7), (0, 8), (0, 48), (0, 50)] [35, 36, 37, 38, 45, 46, 47] V147 V164 := ajV164
                      have agV164 : agr [(0, 7), (0, 8), (0, 48), (0, 50)] [35, 36, 37, 38, 45, 46, 47] V V164 := agV147.tr ajV164 (by decide) (by decide)
                      have t159 : Imp ((V164 0 8).toInt = 0) ((V164 0 48).toInt - (V147 0 48).toInt ≤ 2 * ((V164 0 7).toInt - (V147 0 7).toInt)) := t159
                      have t160 : (V164 0 48).toInt ≤ 8049 - 6 * (V147 0 50).toInt := t160
                      have t161 : (V164 0 50).toInt = (V147 0 50).toInt := t161
                      have t162 : (V147 0 48).toInt ≤ (V164 0 48).toInt := t162
                      have t163 : RdM (gT) ((nx s1 1)) (fun k => Iprod (gd) :: k) (fun k => k) (V164 0 8).toInt (fun s9 => RelM V164 L165 (bq) (gn) (gT) s9 (gl) ∧ keepS ((nx s1 1)) 1 s9) := t163
                      have r166 : 0 ≤ ((V164 0 48)).toInt ∧ ((V164 0 48)).toInt ≤ 10000 := hMV164 0 48
                      have r167 : 0 ≤ ((V164 0 8)).toInt ∧ ((V164 0 8)).toInt ≤ 70000 := hMV164 0 8
                      have r168 : 0 ≤ ((V164 0 50)).toInt ∧ ((V164 0 50)).toInt ≤ 9 := hMV164 0 50
                      rcases t163 with ⟨q169, sx170, h171, rl172, kp173⟩ | ⟨q169, h171⟩
                      · skip
                        have hr174 : ∀ k, Rc gT (Crun gs (Isum gd :: k)) (Crun sx170 (IsumR gd :: k)) := fun k => (hr148 k).tr (h171 (IsumR gd :: k))
                        have fz175 := RelM.rg rl172
                        have ps176 := (kp173).1
                        refine lv_aload_n hx hb dX12_sum_53 rfl (lv_at hl 1 rfl) ?_
                        refine lv_iload_n hx hb dX12_sum_54 rfl (lv_at hl 0 rfl) ?_
                        refine lv_iconst (v := 0) hx hb dX12_sum_55 (by decide) ?_
                        refine lv_iconst (v := 0) hx hb dX12_sum_56 (by decide) ?_
                        have r177 : Int32.toInt 7 = 7 := by decide
                        have r178 : Int32.toInt 0 = 0 := by decide
                        refine gA_int (gA_runV (As := [.int 7, .int 0, .int 0]) (rest := []) (ci := 12) (q0 := 0) hx hb hml hown hg hP hD hK hS hA hnw hgk (s_emit3 l D ks H.size ad kk V164 L165 7 0 0 hMV164 (show (V164 0 48).toInt ≤ 9999 from by first | omega | ((try (have i_t159 := Imp.go t159 (by omega))); (try (have i_xlp29_3 := Imp.go xlp29_3 (by omega))); (try (have i_xlp29_2 := Imp.go xlp29_2 (by omega))); (try (have i_t8 := Imp.go t8 (by omega))); (try (have i_t8 := Imp.go t8 (by omega))); (try (have i_xlp29_2 := Imp.go xlp29_2 (by omega))); (try (have i_xlp29_3 := Imp.go xlp29_3 (by omega))); (try (have i_t159 := Imp.go t159 (by omega))); omega))) w2136 w2138 w111 w172 w2139 rfl rfl hdV_yX12_emit ⟨(by show 0 + 1 ≤ 10 * dd + 12; omega), (by show 8 + (4 + 11) + (0) ≤ 300 * dd + 380; omega)⟩ rfl hl.1 rfl (Nat.le_of_ble_eq_true rfl) dX12_sum_57 ⟨Nat.le_of_ble_eq_true rfl, Nat.le_of_ble_eq_true rfl⟩) hP hD hK hS hA (fun z179 u180 H locs w181 hP hD hK hS => ?_)
                        obtain ⟨V185, L186⟩ := u180
                        obtain ⟨hMV185, ajV185, axL186, rgz179, t182, t183, t184⟩ := w181
                        have axL186 : L165 = L186 := Eq.symm axL186
                        subst axL186
                        have hP : va_P D vwCl (mw ad kk ks.1 V185 L165) H := hP
                        have hD : va_D A (mw ad kk ks.1 V185 L165) := hD
                        have hMV185 : rgd bM V185 := hMV185
                        have ajV185 : agr [(0, 48)] [45, 46, 47] V164 V185 := ajV185
                        have agV185 : agr [(0, 7), (0, 8), (0, 48), (0, 50)] [35, 36, 37, 38, 45, 46, 47] V V185 := agV164.tr ajV185 (by decide) (by decide)
                        have rgz179 : 0 ≤ z179.toInt ∧ z179.toInt ≤ 20000 := rgz179
                        have t182 : (V185 0 48).toInt = (V164 0 48).toInt + 1 := t182
                        have t183 : z179.toInt = (V164 0 49).toInt + (V164 0 48).toInt := t183
                        have t184 : emitted V164 V185 (pA V164) 7 0 0 := t184
                        have r187 : 0 ≤ ((V185 0 48)).toInt ∧ ((V185 0 48)).toInt ≤ 10000 := hMV185 0 48
                        have pq188 : (V164 0 49).toInt = ((V 0 49)).toInt := congrArg Int32.toInt ((ajV164 0 49 rfl).trans ((up2_k hV147 (by decide)).trans ((ajV26 0 49 rfl).trans (ajV13 0 49 rfl))))
                        have r189 : 0 ≤ ((V 0 49)).toInt ∧ ((V 0 49)).toInt ≤ 10000 := hMV 0 49
                        refine lv_istore_n (lv' := [(2, .int z179), (1, .int 7), (0, .ref (ad 0))]) hx hb dX12_sum_60 rfl hl (by decide) rfl (fun ls hl => ?_)
                        refine lv_goto (tgt := 4) hx hb dX12_sum_61 (by decide) ?_
                        have pq190 : (V185 0 7).toInt = ((V164 0 7)).toInt := congrArg Int32.toInt (ajV185 0 7 rfl)
                        have pq191 : (V185 0 8).toInt = ((V164 0 8)).toInt := congrArg Int32.toInt (ajV185 0 8 rfl)
                        have pq192 : (V185 0 50).toInt = ((V164 0 50)).toInt := congrArg Int32.toInt (ajV185 0 50 rfl)
                        have rl193 : RelM V185 L165 bq gn gT sx170 gl := RelM.ag rl172 (show agr [(0, 48)] [45, 46, 47] V164 V185 from (agr.tr agr.rf ajV185 (by decide) (by decide))) (by decide) (show agL [] L165 L165 from agL.rf) (by decide)
                        exact ihlp29 (g28 - 1) V185 L165 H locs ls (Or.inl ⟨W0 rl193, sx170, hr174, rl193, keepS.le (keepS.tr (keepS.tr (keepS.tr (keepS.rf : keepS gs 0 gs) kq) (keepS.n1 1)) kp173) (by decide)⟩) (show 0 ≤ (g28 - 1) from by first | omega | ((try (have i_t159 := Imp.go t159 (by omega))); (try (have i_xlp29_3 := Imp.go xlp29_3 (by omega))); (try (have i_xlp29_2 := Imp.go xlp29_2 (by omega))); (try (have i_t8 := Imp.go t8 (by omega))); (try (have i_t8 := Imp.go t8 (by omega))); (try (have i_xlp29_2 := Imp.go xlp29_2 (by omega))); (try (have i_xlp29_3 := Imp.go xlp29_3 (by omega))); (try (have i_t159 := Imp.go t159 (by omega))); omega)) (Imp.mk (fun hp => have hp : (V185 0 8).toInt = 0 := hp; (show (gn : Int) - (V185 0 7).toInt < (g28 - 1) from by first | omega | ((try (have i_t159 := Imp.go t159 (by omega))); (try (have i_xlp29_3 := Imp.go xlp29_3 (by omega))); (try (have i_xlp29_2 := Imp.go xlp29_2 (by omega))); (try (have i_t8 := Imp.go t8 (by omega))); (try (have i_t8 := Imp.go t8 (by omega))); (try (have i_xlp29_2 := Imp.go xlp29_2 (by omega))); (try (have i_xlp29_3 := Imp.go xlp29_3 (by omega))); (try (have i_t159 := Imp.go t159 (by omega))); omega)))) (Imp.mk (fun hp => have hp : (V185 0 8).toInt = 0 := hp; (show (V185 0 48).toInt - (V 0 48).toInt ≤ 2 * ((V185 0 7).toInt - (V 0 7).toInt) from by first | omega | ((try (have i_t159 := Imp.go t159 (by omega))); (try (have i_xlp29_3 := Imp.go xlp29_3 (by omega))); (try (have i_xlp29_2 := Imp.go xlp29_2 (by omega))); (try (have i_t8 := Imp.go t8 (by omega))); (try (have i_t8 := Imp.go t8 (by omega))); (try (have i_xlp29_2 := Imp.go xlp29_2 (by omega))); (try (have i_xlp29_3 := Imp.go xlp29_3 (by omega))); (try (have i_t159 := Imp.go t159 (by omega))); omega)))) (show (V185 0 48).toInt ≤ 8050 - 6 * (V 0 50).toInt from by first | omega | ((try (have i_t159 := Imp.go t159 (by omega))); (try (have i_xlp29_3 := Imp.go xlp29_3 (by omega))); (try (have i_xlp29_2 := Imp.go xlp29_2 (by omega))); (try (have i_t8 := Imp.go t8 (by omega))); (try (have i_t8 := Imp.go t8 (by omega))); (try (have i_xlp29_2 := Imp.go xlp29_2 (by omega))); (try (have i_xlp29_3 := Imp.go xlp29_3 (by omega))); (try (have i_t159 := Imp.go t159 (by omega))); omega)) (show (V185 0 50).toInt = (V 0 50).toInt from by first | omega | ((try (have i_t159 := Imp.go t159 (by omega))); (try (have i_xlp29_3 := Imp.go xlp29_3 (by omega))); (try (have i_xlp29_2 := Imp.go xlp29_2 (by omega))); (try (have i_t8 := Imp.go t8 (by omega))); (try (have i_t8 := Imp.go t8 (by omega))); (try (have i_xlp29_2 := Imp.go xlp29_2 (by omega))); (try (have i_xlp29_3 := Imp.go xlp29_3 (by omega))); (try (have i_t159 := Imp.go t159 (by omega))); omega)) (show (V 0 48).toInt ≤ (V185 0 48).toInt from by first | omega | ((try (have i_t159 := Imp.go t159 (by omega))); (try (have i_xlp29_3 := Imp.go xlp29_3 (by omega))); (try (have i_xlp29_2 := Imp.go xlp29_2 (by omega))); (try (have i_t8 := Imp.go t8 (by omega))); (try (have i_t8 := Imp.go t8 (by omega))); (try (have i_xlp29_2 := Imp.go xlp29_2 (by omega))); (try (have i_xlp29_3 := Imp.go xlp29_3 (by omega))); (try (have i_t159 := Imp.go t159 (by omega))); omega)) (by first | omega | ((try (have i_t159 := Imp.go t159 (by omega))); (try (have i_xlp29_3 := Imp.go xlp29_3 (by omega))); (try (have i_xlp29_2 := Imp.go xlp29_2 (by omega))); (try (have i_t8 := Imp.go t8 (by omega))); (try (have i_t8 := Imp.go t8 (by omega))); (try (have i_xlp29_2 := Imp.go xlp29_2 (by omega))); (try (have i_xlp29_3 := Imp.go xlp29_3 (by omega))); (try (have i_t159 := Imp.go t159 (by omega))); omega)) alL165 (agr.tr (agr.tr (agr.up (agr.tr agr.rf ajV26 (by decide) (by decide)) hV147 rfl) ajV164 (by decide) (by decide)) ajV185 (by decide) (by decide)) hMV185 hP hD hS (lv_sub hl [2] rfl)
                      · skip
                        have hb194 : ∀ k, Rc gT (Crun gs (Isum gd :: k)) (Cbad (V164 0 8).toInt) := fun k => (hr148 k).tr (h171 (IsumR gd :: k))
                        refine lv_aload_n hx hb dX12_sum_53 rfl (lv_at hl 1 rfl) ?_
                        refine lv_iload_n hx hb dX12_sum_54 rfl (lv_at hl 0 rfl) ?_
                        refine lv_iconst (v := 0) hx hb dX12_sum_55 (by decide) ?_
                        refine lv_iconst (v := 0) hx hb dX12_sum_56 (by decide) ?_
                        have r195 : Int32.toInt 7 = 7 := by decide
                        have r196 : Int32.toInt 0 = 0 := by decide
                        refine gA_int (gA_runV (As := [.int 7, .int 0, .int 0]) (rest := []) (ci := 12) (q0 := 0) hx hb hml hown hg hP hD hK hS hA hnw hgk (s_emit3 l D ks H.size ad kk V164 L165 7 0 0 hMV164 (show (V164 0 48).toInt ≤ 9999 from by first | omega | ((try (have i_t159 := Imp.go t159 (by omega))); (try (have i_xlp29_3 := Imp.go xlp29_3 (by omega))); (try (have i_xlp29_2 := Imp.go xlp29_2 (by omega))); (try (have i_t8 := Imp.go t8 (by omega))); (try (have i_t8 := Imp.go t8 (by omega))); (try (have i_xlp29_2 := Imp.go xlp29_2 (by omega))); (try (have i_xlp29_3 := Imp.go xlp29_3 (by omega))); (try (have i_t159 := Imp.go t159 (by omega))); omega))) w2136 w2138 w111 w172 w2139 rfl rfl hdV_yX12_emit ⟨(by show 0 + 1 ≤ 10 * dd + 12; omega), (by show 8 + (4 + 11) + (0) ≤ 300 * dd + 380; omega)⟩ rfl hl.1 rfl (Nat.le_of_ble_eq_true rfl) dX12_sum_57 ⟨Nat.le_of_ble_eq_true rfl, Nat.le_of_ble_eq_true rfl⟩) hP hD hK hS hA (fun z197 u198 H locs w199 hP hD hK hS => ?_)
                        obtain ⟨V203, L204⟩ := u198
                        obtain ⟨hMV203, ajV203, axL204, rgz197, t200, t201, t202⟩ := w199
                        have axL204 : L165 = L204 := Eq.symm axL204
                        subst axL204
                        have hP : va_P D vwCl (mw ad kk ks.1 V203 L165) H := hP
                        have hD : va_D A (mw ad kk ks.1 V203 L165) := hD
                        have hMV203 : rgd bM V203 := hMV203
                        have ajV203 : agr [(0, 48)] [45, 46, 47] V164 V203 := ajV203
                        have agV203 : agr [(0, 7), (0, 8), (0, 48), (0, 50)] [35, 36, 37, 38, 45, 46, 47] V V203 := agV164.tr ajV203 (by decide) (by decide)
                        have rgz197 : 0 ≤ z197.toInt ∧ z197.toInt ≤ 20000 := rgz197
                        have t200 : (V203 0 48).toInt = (V164 0 48).toInt + 1 := t200
                        have t201 : z197.toInt = (V164 0 49).toInt + (V164 0 48).toInt := t201
                        have t202 : emitted V164 V203 (pA V164) 7 0 0 := t202
                        have r205 : 0 ≤ ((V203 0 48)).toInt ∧ ((V203 0 48)).toInt ≤ 10000 := hMV203 0 48
                        have pq206 : (V164 0 49).toInt = ((V 0 49)).toInt := congrArg Int32.toInt ((ajV164 0 49 rfl).trans ((up2_k hV147 (by decide)).trans ((ajV26 0 49 rfl).trans (ajV13 0 49 rfl))))
                        have r207 : 0 ≤ ((V 0 49)).toInt ∧ ((V 0 49)).toInt ≤ 10000 := hMV 0 49
                        refine lv_istore_n (lv' := [(2, .int z197), (1, .int 7), (0, .ref (ad 0))]) hx hb dX12_sum_60 rfl hl (by decide) rfl (fun ls hl => ?_)
                        refine lv_goto (tgt := 4) hx hb dX12_sum_61 (by decide) ?_
                        have pq208 : (V203 0 7).toInt = ((V164 0 7)).toInt := congrArg Int32.toInt (ajV203 0 7 rfl)
                        have pq209 : (V203 0 8).toInt = ((V164 0 8)).toInt := congrArg Int32.toInt (ajV203 0 8 rfl)
                        have pq210 : (V203 0 50).toInt = ((V164 0 50)).toInt := congrArg Int32.toInt (ajV203 0 50 rfl)
                        exact ihlp29 (g28 - 1) V203 L165 H locs ls (Or.inr ⟨(show 1 ≤ (V203 0 8).toInt from by omega), (fun k => by rw [show (V203 0 8).toInt = (V164 0 8).toInt from by omega]; exact hb194 k)⟩) (show 0 ≤ (g28 - 1) from by first | omega | ((try (have i_t159 := Imp.go t159 (by omega))); (try (have i_xlp29_3 := Imp.go xlp29_3 (by omega))); (try (have i_xlp29_2 := Imp.go xlp29_2 (by omega))); (try (have i_t8 := Imp.go t8 (by omega))); (try (have i_t8 := Imp.go t8 (by omega))); (try (have i_xlp29_2 := Imp.go xlp29_2 (by omega))); (try (have i_xlp29_3 := Imp.go xlp29_3 (by omega))); (try (have i_t159 := Imp.go t159 (by omega))); omega)) (Imp.mk (fun hp => have hp : (V203 0 8).toInt = 0 := hp; (show (gn : Int) - (V203 0 7).toInt < (g28 - 1) from by first | omega | ((try (have i_t159 := Imp.go t159 (by omega))); (try (have i_xlp29_3 := Imp.go xlp29_3 (by omega))); (try (have i_xlp29_2 := Imp.go xlp29_2 (by omega))); (try (have i_t8 := Imp.go t8 (by omega))); (try (have i_t8 := Imp.go t8 (by omega))); (try (have i_xlp29_2 := Imp.go xlp29_2 (by omega))); (try (have i_xlp29_3 := Imp.go xlp29_3 (by omega))); (try (have i_t159 := Imp.go t159 (by omega))); omega)))) (Imp.mk (fun hp => have hp : (V203 0 8).toInt = 0 := hp; (show (V203 0 48).toInt - (V 0 48).toInt ≤ 2 * ((V203 0 7).toInt - (V 0 7).toInt) from by first | omega | ((try (have i_t159 := Imp.go t159 (by omega))); (try (have i_xlp29_3 := Imp.go xlp29_3 (by omega))); (try (have i_xlp29_2 := Imp.go xlp29_2 (by omega))); (try (have i_t8 := Imp.go t8 (by omega))); (try (have i_t8 := Imp.go t8 (by omega))); (try (have i_xlp29_2 := Imp.go xlp29_2 (by omega))); (try (have i_xlp29_3 := Imp.go xlp29_3 (by omega))); (try (have i_t159 := Imp.go t159 (by omega))); omega)))) (show (V203 0 48).toInt ≤ 8050 - 6 * (V 0 50).toInt from by first | omega | ((try (have i_t159 := Imp.go t159 (by omega))); (try (have i_xlp29_3 := Imp.go xlp29_3 (by omega))); (try (have i_xlp29_2 := Imp.go xlp29_2 (by omega))); (try (have i_t8 := Imp.go t8 (by omega))); (try (have i_t8 := Imp.go t8 (by omega))); (try (have i_xlp29_2 := Imp.go xlp29_2 (by omega))); (try (have i_xlp29_3 := Imp.go xlp29_3 (by omega))); (try (have i_t159 := Imp.go t159 (by omega))); omega)) (show (V203 0 50).toInt = (V 0 50).toInt from by first | omega | ((try (have i_t159 := Imp.go t159 (by omega))); (try (have i_xlp29_3 := Imp.go xlp29_3 (by omega))); (try (have i_xlp29_2 := Imp.go xlp29_2 (by omega))); (try (have i_t8 := Imp.go t8 (by omega))); (try (have i_t8 := Imp.go t8 (by omega))); (try (have i_xlp29_2 := Imp.go xlp29_2 (by omega))); (try (have i_xlp29_3 := Imp.go xlp29_3 (by omega))); (try (have i_t159 := Imp.go t159 (by omega))); omega)) (show (V 0 48).toInt ≤ (V203 0 48).toInt from by first | omega | ((try (have i_t159 := Imp.go t159 (by omega))); (try (have i_xlp29_3 := Imp.go xlp29_3 (by omega))); (try (have i_xlp29_2 := Imp.go xlp29_2 (by omega))); (try (have i_t8 := Imp.go t8 (by omega))); (try (have i_t8 := Imp.go t8 (by omega))); (try (have i_xlp29_2 := Imp.go xlp29_2 (by omega))); (try (have i_xlp29_3 := Imp.go xlp29_3 (by omega))); (try (have i_t159 := Imp.go t159 (by omega))); omega)) (by first | omega | ((try (have i_t159 := Imp.go t159 (by omega))); (try (have i_xlp29_3 := Imp.go xlp29_3 (by omega))); (try (have i_xlp29_2 := Imp.go xlp29_2 (by omega))); (try (have i_t8 := Imp.go t8 (by omega))); (try (have i_t8 := Imp.go t8 (by omega))); (try (have i_xlp29_2 := Imp.go xlp29_2 (by omega))); (try (have i_xlp29_3 := Imp.go xlp29_3 (by omega))); (try (have i_t159 := Imp.go t159 (by omega))); omega)) alL165 (agr.tr (agr.tr (agr.up (agr.tr agr.rf ajV26 (by decide) (by decide)) hV147 rfl) ajV164 (by decide) (by decide)) ajV203 (by decide) (by decide)) hMV203 hP hD hS (lv_sub hl [2] rfl)
                    · skip
                      have f211 : z136.toInt ≠ 0 := b_neq rfl (by decide) c144
                      exfalso; first | omega | ((try (have i_xlp29_3 := Imp.go xlp29_3 (by omega))); (try (have i_xlp29_2 := Imp.go xlp29_2 (by omega))); (try (have i_t8 := Imp.go t8 (by omega))); (try (have i_t8 := Imp.go t8 (by omega))); (try (have i_xlp29_2 := Imp.go xlp29_2 (by omega))); (try (have i_xlp29_3 := Imp.go xlp29_3 (by omega))); omega)
              · skip
                have kd212 : gT.1 (s1.1 0) ≠ 45 := fun h9 => h131 (h9.trans (by decide))
                refine lv_if_eq (tgt := 64) hx hb dX12_sum_19 (by decide) (fun c213 => ?_) (fun c213 => ?_)
                · skip
                  have f214 : z126.toInt = 0 := b_eq rfl (by decide) c213
                  have hr215 : ∀ k, Rc gT (Crun gs (Isum gd :: k)) (Crun s1 (k)) := fun k => Rc.go1 (hq k) (sumR_n gd kd121 kd212)
                  exact W.vret hx hb hr (fun t ht hW => ⟨⟨(V26, L27), rfl, ⟨hMV26, agV26, alL27, (Imp.mk (fun hp => have hp : (V26 0 8).toInt = 0 := hp; (show (V26 0 48).toInt - (V 0 48).toInt ≤ 2 * ((V26 0 7).toInt - (V 0 7).toInt) from by first | omega | ((try (have i_xlp29_3 := Imp.go xlp29_3 (by omega))); (try (have i_xlp29_2 := Imp.go xlp29_2 (by omega))); (try (have i_t8 := Imp.go t8 (by omega))); (try (have i_t8 := Imp.go t8 (by omega))); (try (have i_xlp29_2 := Imp.go xlp29_2 (by omega))); (try (have i_xlp29_3 := Imp.go xlp29_3 (by omega))); omega)))), (show (V26 0 48).toInt ≤ 8050 - 6 * (V 0 50).toInt from by first | omega | ((try (have i_xlp29_3 := Imp.go xlp29_3 (by omega))); (try (have i_xlp29_2 := Imp.go xlp29_2 (by omega))); (try (have i_t8 := Imp.go t8 (by omega))); (try (have i_t8 := Imp.go t8 (by omega))); (try (have i_xlp29_2 := Imp.go xlp29_2 (by omega))); (try (have i_xlp29_3 := Imp.go xlp29_3 (by omega))); omega)), (show (V26 0 50).toInt = (V 0 50).toInt from by first | omega | ((try (have i_xlp29_3 := Imp.go xlp29_3 (by omega))); (try (have i_xlp29_2 := Imp.go xlp29_2 (by omega))); (try (have i_t8 := Imp.go t8 (by omega))); (try (have i_t8 := Imp.go t8 (by omega))); (try (have i_xlp29_2 := Imp.go xlp29_2 (by omega))); (try (have i_xlp29_3 := Imp.go xlp29_3 (by omega))); omega)), (show (V 0 48).toInt ≤ (V26 0 48).toInt from by first | omega | ((try (have i_xlp29_3 := Imp.go xlp29_3 (by omega))); (try (have i_xlp29_2 := Imp.go xlp29_2 (by omega))); (try (have i_t8 := Imp.go t8 (by omega))); (try (have i_t8 := Imp.go t8 (by omega))); (try (have i_xlp29_2 := Imp.go xlp29_2 (by omega))); (try (have i_xlp29_3 := Imp.go xlp29_3 (by omega))); omega)), (Or.inl ⟨W0 rq, s1, hr215, rq, keepS.le (keepS.tr (keepS.rf : keepS gs 0 gs) kq) (by decide)⟩)⟩, by rw [ht]; exact hP, va_K.moved hW.alike hK, hD⟩, hS.F ht⟩) hS.2.2 dX12_sum_64
                · skip
                  have f216 : z126.toInt ≠ 0 := b_neq rfl (by decide) c213
                  exfalso; first | omega | ((try (have i_xlp29_3 := Imp.go xlp29_3 (by omega))); (try (have i_xlp29_2 := Imp.go xlp29_2 (by omega))); (try (have i_t8 := Imp.go t8 (by omega))); (try (have i_t8 := Imp.go t8 (by omega))); (try (have i_xlp29_2 := Imp.go xlp29_2 (by omega))); (try (have i_xlp29_3 := Imp.go xlp29_3 (by omega))); omega)
        · skip
          refine lv_bipush (v := 43) hx hb dX12_sum_5 (by decide) ?_
          have r217 : Int32.toInt 43 = 43 := by decide
          refine gA_int (gA_runV (As := [.int 43]) (rest := []) (ci := 12) (q0 := 0) hx hb hml hown hg hP hD hK hS hA hnw hgk (s_isSignB l D ks H.size ad kk V26 L27 43 hMV26 (show 1 ≤ (V26 0 8).toInt from by first | omega | ((try (have i_xlp29_3 := Imp.go xlp29_3 (by omega))); (try (have i_xlp29_2 := Imp.go xlp29_2 (by omega))); (try (have i_t8 := Imp.go t8 (by omega))); (try (have i_t8 := Imp.go t8 (by omega))); (try (have i_xlp29_2 := Imp.go xlp29_2 (by omega))); (try (have i_xlp29_3 := Imp.go xlp29_3 (by omega))); omega))) w2071 w2073 w95 w172 w2074 rfl rfl hdV_yX12_isSign ⟨(by show 0 + 1 ≤ 10 * dd + 12; omega), (by show 8 + (2 + 11) + (0) ≤ 300 * dd + 380; omega)⟩ rfl hl.1 rfl (Nat.le_of_ble_eq_true rfl) dX12_sum_7 ⟨Nat.le_of_ble_eq_true rfl, Nat.le_of_ble_eq_true rfl⟩) hP hD hK hS hA (fun z218 u219 H locs w220 hP hD hK hS => ?_)
          have rgz218 := w220
          have rgz218 : 0 ≤ z218.toInt ∧ z218.toInt ≤ 0 := rgz218
          refine lv_if_ne (tgt := 22) hx hb dX12_sum_10 (by decide) (fun c221 => ?_) (fun c221 => ?_)
          · skip
            have f222 : z218.toInt ≠ 0 := b_neq rfl (by decide) c221
            exfalso; first | omega | ((try (have i_xlp29_3 := Imp.go xlp29_3 (by omega))); (try (have i_xlp29_2 := Imp.go xlp29_2 (by omega))); (try (have i_t8 := Imp.go t8 (by omega))); (try (have i_t8 := Imp.go t8 (by omega))); (try (have i_xlp29_2 := Imp.go xlp29_2 (by omega))); (try (have i_xlp29_3 := Imp.go xlp29_3 (by omega))); omega)
          · skip
            have f223 : z218.toInt = 0 := b_eq rfl (by decide) c221
            refine lv_aload_n hx hb dX12_sum_13 rfl (lv_at hl 0 rfl) ?_
            refine lv_bipush (v := 45) hx hb dX12_sum_14 (by decide) ?_
            have r224 : Int32.toInt 45 = 45 := by decide
            refine gA_int (gA_runV (As := [.int 45]) (rest := []) (ci := 12) (q0 := 0) hx hb hml hown hg hP hD hK hS hA hnw hgk (s_isSignB l D ks H.size ad kk V26 L27 45 hMV26 (show 1 ≤ (V26 0 8).toInt from by first | omega | ((try (have i_xlp29_3 := Imp.go xlp29_3 (by omega))); (try (have i_xlp29_2 := Imp.go xlp29_2 (by omega))); (try (have i_t8 := Imp.go t8 (by omega))); (try (have i_t8 := Imp.go t8 (by omega))); (try (have i_xlp29_2 := Imp.go xlp29_2 (by omega))); (try (have i_xlp29_3 := Imp.go xlp29_3 (by omega))); omega))) w2071 w2073 w95 w172 w2074 rfl rfl hdV_yX12_isSign ⟨(by show 0 + 1 ≤ 10 * dd + 12; omega), (by show 8 + (2 + 11) + (0) ≤ 300 * dd + 380; omega)⟩ rfl hl.1 rfl (Nat.le_of_ble_eq_true rfl) dX12_sum_16 ⟨Nat.le_of_ble_eq_true rfl, Nat.le_of_ble_eq_true rfl⟩) hP hD hK hS hA (fun z225 u226 H locs w227 hP hD hK hS => ?_)
            have rgz225 := w227
            have rgz225 : 0 ≤ z225.toInt ∧ z225.toInt ≤ 0 := rgz225
            refine lv_if_eq (tgt := 64) hx hb dX12_sum_19 (by decide) (fun c228 => ?_) (fun c228 => ?_)
            · skip
              have f229 : z225.toInt = 0 := b_eq rfl (by decide) c228
              exact W.vret hx hb hr (fun t ht hW => ⟨⟨(V26, L27), rfl, ⟨hMV26, agV26, alL27, (Imp.mk (fun hp => have hp : (V26 0 8).toInt = 0 := hp; (show (V26 0 48).toInt - (V 0 48).toInt ≤ 2 * ((V26 0 7).toInt - (V 0 7).toInt) from by first | omega | ((try (have i_xlp29_3 := Imp.go xlp29_3 (by omega))); (try (have i_xlp29_2 := Imp.go xlp29_2 (by omega))); (try (have i_t8 := Imp.go t8 (by omega))); (try (have i_t8 := Imp.go t8 (by omega))); (try (have i_xlp29_2 := Imp.go xlp29_2 (by omega))); (try (have i_xlp29_3 := Imp.go xlp29_3 (by omega))); omega)))), (show (V26 0 48).toInt ≤ 8050 - 6 * (V 0 50).toInt from by first | omega | ((try (have i_xlp29_3 := Imp.go xlp29_3 (by omega))); (try (have i_xlp29_2 := Imp.go xlp29_2 (by omega))); (try (have i_t8 := Imp.go t8 (by omega))); (try (have i_t8 := Imp.go t8 (by omega))); (try (have i_xlp29_2 := Imp.go xlp29_2 (by omega))); (try (have i_xlp29_3 := Imp.go xlp29_3 (by omega))); omega)), (show (V26 0 50).toInt = (V 0 50).toInt from by first | omega | ((try (have i_xlp29_3 := Imp.go xlp29_3 (by omega))); (try (have i_xlp29_2 := Imp.go xlp29_2 (by omega))); (try (have i_t8 := Imp.go t8 (by omega))); (try (have i_t8 := Imp.go t8 (by omega))); (try (have i_xlp29_2 := Imp.go xlp29_2 (by omega))); (try (have i_xlp29_3 := Imp.go xlp29_3 (by omega))); omega)), (show (V 0 48).toInt ≤ (V26 0 48).toInt from by first | omega | ((try (have i_xlp29_3 := Imp.go xlp29_3 (by omega))); (try (have i_xlp29_2 := Imp.go xlp29_2 (by omega))); (try (have i_t8 := Imp.go t8 (by omega))); (try (have i_t8 := Imp.go t8 (by omega))); (try (have i_xlp29_2 := Imp.go xlp29_2 (by omega))); (try (have i_xlp29_3 := Imp.go xlp29_3 (by omega))); omega)), (Or.inr ⟨(show 1 ≤ (V26 0 8).toInt from by omega), hq⟩)⟩, by rw [ht]; exact hP, va_K.moved hW.alike hK, hD⟩, hS.F ht⟩) hS.2.2 dX12_sum_64
            · skip
              have f230 : z225.toInt ≠ 0 := b_neq rfl (by decide) c228
              exfalso; first | omega | ((try (have i_xlp29_3 := Imp.go xlp29_3 (by omega))); (try (have i_xlp29_2 := Imp.go xlp29_2 (by omega))); (try (have i_t8 := Imp.go t8 (by omega))); (try (have i_t8 := Imp.go t8 (by omega))); (try (have i_xlp29_2 := Imp.go xlp29_2 (by omega))); (try (have i_xlp29_3 := Imp.go xlp29_3 (by omega))); omega)
    exact lp29 ((((gn : Int) + 1) + 1 : Int).toNat) ((gn : Int) + 1) V13 L14 H locs ls (Or.inl ⟨W0 rl21, sx19, hr23, rl21, keepS.le (keepS.tr (keepS.rf : keepS gs 0 gs) kp22) (by decide)⟩) (show 0 ≤ ((gn : Int) + 1) from by first | omega | ((try (have i_t8 := Imp.go t8 (by omega))); omega)) (Imp.mk (fun hp => have hp : (V13 0 8).toInt = 0 := hp; (show (gn : Int) - (V13 0 7).toInt < ((gn : Int) + 1) from by first | omega | ((try (have i_t8 := Imp.go t8 (by omega))); omega)))) (Imp.mk (fun hp => have hp : (V13 0 8).toInt = 0 := hp; (show (V13 0 48).toInt - (V 0 48).toInt ≤ 2 * ((V13 0 7).toInt - (V 0 7).toInt) from by first | omega | ((try (have i_t8 := Imp.go t8 (by omega))); omega)))) (show (V13 0 48).toInt ≤ 8050 - 6 * (V 0 50).toInt from by first | omega | ((try (have i_t8 := Imp.go t8 (by omega))); omega)) (show (V13 0 50).toInt = (V 0 50).toInt from by first | omega | ((try (have i_t8 := Imp.go t8 (by omega))); omega)) (show (V 0 48).toInt ≤ (V13 0 48).toInt from by first | omega | ((try (have i_t8 := Imp.go t8 (by omega))); omega)) (by first | omega | ((try (have i_t8 := Imp.go t8 (by omega))); omega)) alL14 agr.rf hMV13 hP hD hS (lv_sub hl [0] rfl)
  · skip
    have hb231 : ∀ k, Rc gT (Crun gs (Isum gd :: k)) (Cbad (V13 0 8).toInt) := fun k => (hr4 k).tr (h20 (IsumR gd :: k))
    have lp235 : ∀ (fulp235 : Nat) (g234 : Int) (V232 : Vf) (L233 : Lf) (H : Heap) (locs : List Loc) (ls : Array Slot), (((V232 0 8).toInt = 0 ∧ ∃ s1 : St, (∀ k, Rc gT (Crun gs (Isum gd :: k)) (Crun s1 (IsumR gd :: k))) ∧ RelM V232 L233 bq gn gT s1 gl ∧ keepS gs 1 s1) ∨ (1 ≤ (V232 0 8).toInt ∧ ∀ k, Rc gT (Crun gs (Isum gd :: k)) (Cbad (V232 0 8).toInt))) → 0 ≤ g234 → Imp ((V232 0 8).toInt = 0) ((gn : Int) - (V232 0 7).toInt < g234) → Imp ((V232 0 8).toInt = 0) ((V232 0 48).toInt - (V 0 48).toInt ≤ 2 * ((V232 0 7).toInt - (V 0 7).toInt)) → (V232 0 48).toInt ≤ 8050 - 6 * (V 0 50).toInt → (V232 0 50).toInt = (V 0 50).toInt → (V 0 48).toInt ≤ (V232 0 48).toInt → g234 < (fulp235 : Int) → agL [35, 36, 37, 38, 45, 46, 47] L L233 → agr [(0, 7), (0, 8), (0, 48), (0, 50)] [35, 36, 37, 38, 45, 46, 47] V13 V232 → rgd bM V232 → va_P D vwCl (mw ad kk ks.1 V232 L233) H → va_D A (mw ad kk ks.1 V232 L233) → va_S A s.heap H locs → lv_has ls 3 [(0, .ref (ad 0))] → W p l e (rK 12 380 dd) s m ([.ref (ad 0)] : List Value).toArray below meth c H locs 0 0 (MQ below (q_s_sumA D ks ad kk V L  bq gn gT gs gl gd A) ([.ref (ad 0)] : List Value).toArray s 0 0 A) (F0 m 4 ls []) := by
      intro fulp235
      induction fulp235 with
      | zero =>
        intro g234 V232 L233 H locs ls xlp235_0 xlp235_1 xlp235_2 xlp235_3 xlp235_4 xlp235_5 xlp235_6 hn alL233 ajV232 hMV232 hP hD hS hl
        exfalso; omega
      | succ fulp235 ihlp235 =>
        intro g234 V232 L233 H locs ls xlp235_0 xlp235_1 xlp235_2 xlp235_3 xlp235_4 xlp235_5 xlp235_6 hn alL233 ajV232 hMV232 hP hD hS hl
        have agV232 : agr [(0, 7), (0, 8), (0, 48), (0, 50)] [35, 36, 37, 38, 45, 46, 47] V V232 := agV13.tr ajV232 (by decide) (by decide)
        have r236 : 0 ≤ ((V232 0 8)).toInt ∧ ((V232 0 8)).toInt ≤ 70000 := hMV232 0 8
        have r237 : 0 ≤ ((V232 0 48)).toInt ∧ ((V232 0 48)).toInt ≤ 10000 := hMV232 0 48
        have r238 : 0 ≤ ((V232 0 50)).toInt ∧ ((V232 0 50)).toInt ≤ 9 := hMV232 0 50
        refine lv_aload_n hx hb dX12_sum_4 rfl (lv_at hl 0 rfl) ?_
        rcases xlp235_0 with ⟨f8, s1, hq, rq, kq⟩ | ⟨f8, hq⟩
        · skip
          have fz239 := RelM.rg rq
          refine lv_bipush (v := 43) hx hb dX12_sum_5 (by decide) ?_
          have r240 : Int32.toInt 43 = 43 := by decide
          refine gA_int (gA_runV (As := [.int 43]) (rest := []) (ci := 12) (q0 := 0) hx hb hml hown hg hP hD hK hS hA hnw hgk (s_isSignA l D ks H.size ad kk V232 L233 43 (bq) (gn) (gT) (s1) (gl) hMV232 rq (sg_yes (j := 43) (by decide) (by decide) (by decide))) w2071 w2073 w95 w172 w2074 rfl rfl hdV_yX12_isSign ⟨(by show 0 + 1 ≤ 10 * dd + 12; omega), (by show 8 + (2 + 11) + (0) ≤ 300 * dd + 380; omega)⟩ rfl hl.1 rfl (Nat.le_of_ble_eq_true rfl) dX12_sum_7 ⟨Nat.le_of_ble_eq_true rfl, Nat.le_of_ble_eq_true rfl⟩) hP hD hK hS hA (fun z241 u242 H locs w243 hP hD hK hS => ?_)
          obtain ⟨rgz241, t244⟩ := w243
          have rgz241 : 0 ≤ z241.toInt ∧ z241.toInt ≤ 1 := rgz241
          have t244 : (z241.toInt = 1 ∧ (gT).1 ((s1).1 0) = (Int32.toInt 43)) ∨ (z241.toInt = 0 ∧ (gT).1 ((s1).1 0) ≠ (Int32.toInt 43)) := t244
          rcases t244 with ⟨q245, h246⟩ | ⟨q245, h246⟩
          · skip
            have kd247 : gT.1 (s1.1 0) = 43 := h246.trans (by decide)
            refine lv_if_ne (tgt := 22) hx hb dX12_sum_10 (by decide) (fun c248 => ?_) (fun c248 => ?_)
            · skip
              have f249 : z241.toInt ≠ 0 := b_neq rfl (by decide) c248
              refine lv_aload_n hx hb dX12_sum_22 rfl (lv_at hl 0 rfl) ?_
              refine lv_bipush (v := 43) hx hb dX12_sum_23 (by decide) ?_
              refine gA_int (gA_runV (As := [.int 43]) (rest := []) (ci := 12) (q0 := 0) hx hb hml hown hg hP hD hK hS hA hnw hgk (s_isSignA l D ks H.size ad kk V232 L233 43 (bq) (gn) (gT) (s1) (gl) hMV232 rq (sg_yes (j := 43) (by decide) (by decide) (by decide))) w2071 w2073 w95 w172 w2074 rfl rfl hdV_yX12_isSign ⟨(by show 0 + 1 ≤ 10 * dd + 12; omega), (by show 8 + (2 + 11) + (0) ≤ 300 * dd + 380; omega)⟩ rfl hl.1 rfl (Nat.le_of_ble_eq_true rfl) dX12_sum_25 ⟨Nat.le_of_ble_eq_true rfl, Nat.le_of_ble_eq_true rfl⟩) hP hD hK hS hA (fun z250 u251 H locs w252 hP hD hK hS => ?_)
              obtain ⟨rgz250, t253⟩ := w252
              have rgz250 : 0 ≤ z250.toInt ∧ z250.toInt ≤ 1 := rgz250
              have t253 : (z250.toInt = 1 ∧ (gT).1 ((s1).1 0) = (Int32.toInt 43)) ∨ (z250.toInt = 0 ∧ (gT).1 ((s1).1 0) ≠ (Int32.toInt 43)) := t253
              rcases t253 with ⟨q254, h255⟩ | ⟨q254, h255⟩
              · skip
                have kd256 : gT.1 (s1.1 0) = 43 := h255.trans (by decide)
                refine lv_if_eq (tgt := 36) hx hb dX12_sum_28 (by decide) (fun c257 => ?_) (fun c257 => ?_)
                · skip
                  have f258 : z250.toInt = 0 := b_eq rfl (by decide) c257
                  exfalso; first | omega | ((try (have i_xlp235_3 := Imp.go xlp235_3 (by omega))); (try (have i_xlp235_2 := Imp.go xlp235_2 (by omega))); (try (have i_t8 := Imp.go t8 (by omega))); (try (have i_t8 := Imp.go t8 (by omega))); (try (have i_xlp235_2 := Imp.go xlp235_2 (by omega))); (try (have i_xlp235_3 := Imp.go xlp235_3 (by omega))); omega)
                · skip
                  have f259 : z250.toInt ≠ 0 := b_neq rfl (by decide) c257
                  refine lv_bipush (v := 6) hx hb dX12_sum_31 (by decide) ?_
                  refine lv_goto (tgt := 38) hx hb dX12_sum_33 (by decide) ?_
                  refine lv_istore_n (lv' := [(1, .int 6), (0, .ref (ad 0))]) hx hb dX12_sum_38 rfl hl (by decide) rfl (fun ls hl => ?_)
                  refine lv_aload_n hx hb dX12_sum_39 rfl (lv_at hl 1 rfl) ?_
                  refine lv_dup hx hb dX12_sum_40 rfl ?_
                  refine va_get (D := D) (ci := 12) (v := .int (V232 0 7)) (C := RX12) (T := TX12) (N := 100) hx hb hg inX12 hown hK hP 0 rfl rfl 7 (by decide) (hg _ w1713) (fun _ h9 => h9) rfl dX12_sum_41 ?_
                  refine lv_iconst (v := 1) hx hb dX12_sum_44 (by decide) ?_
                  refine lv_iadd hx hb dX12_sum_45 ?_
                  refine lv_topi (fun z260 ez260 => ?_)
                  have hz260 : z260.toInt = ((V232 0 7)).toInt + 1 := i_add ez260 rfl (by decide) (by omega)
                  refine va_put (D := D) (ci := 12) (v := .int z260) (ty := tyX12 7) (C := RX12) (T := TX12) (N := 100) hx hb hg inX12 tyX12 tyX12_ok nmX12 hown hK hP hD hS 0 rfl rfl 7 (by decide) (hg _ w1713) (fun _ h9 => h9) rfl (tyX12_ok 7 (by decide)) rfl rfl (Nat.le_of_ble_eq_true rfl) dX12_sum_46 (fun H locs hP hD hS => ?_)
                  obtain ⟨V261, hV261⟩ : ∃ z, z = up2 V232 0 7 z260 := ⟨_, rfl⟩
                  have hP : va_P D vwCl (mw ad kk ks.1 V261 L233) H := by rw [hV261]; exact hP
                  have hD : va_D A (mw ad kk ks.1 V261 L233) := by rw [hV261]; exact hD
                  have hMV261 : rgd bM V261 := hMV232.put hV261 (i_full _)
                  have agV261 : agr [(0, 7), (0, 8), (0, 48), (0, 50)] [35, 36, 37, 38, 45, 46, 47] V V261 := agV232.up hV261 rfl
                  have hr262 : ∀ k, Rc gT (Crun gs (Isum gd :: k)) (Crun (nx s1 1) (Iprod gd :: IsumR gd :: k)) := fun k => Rc.go1 (hq k) (sumR_y gd (Or.inl kd256))
                  have rl263 : RelM V261 L233 bq gn gT (nx s1 1) gl := RelM.n1 rq hV261 (by omega) (by rw [kd256]; decide)
                  have ps264 : (nx s1 1).1 0 = s1.1 0 + 1 := rfl
                  have fz265 := RelM.rg rl263
                  have pq266 : (V261 0 8).toInt = ((V232 0 8)).toInt := congrArg Int32.toInt (up2_k hV261 (by decide))
                  have pq267 : (V261 0 7).toInt = z260.toInt := congrArg Int32.toInt (up2_s hV261)
                  refine lv_aload_n hx hb dX12_sum_49 rfl (lv_at hl 1 rfl) ?_
                  have pq268 : (V261 0 48).toInt = ((V232 0 48)).toInt := congrArg Int32.toInt (up2_k hV261 (by decide))
                  have pq269 : (V261 0 50).toInt = ((V232 0 50)).toInt := congrArg Int32.toInt (up2_k hV261 (by decide))
                  refine gA_void (gA_runV (As := []) (rest := []) (ci := 12) (q0 := 0) hx hb hml hown hg hP hD hK hS hA hnw hgk (hk_s_productA H.size ad kk V261 L233 (bq) (gn) (gT) ((nx s1 1)) (gl) (gd) hMV261 rl263 (show (V261 0 48).toInt ≤ 2 * (V261 0 7).toInt from by first | omega | ((try (have i_xlp235_3 := Imp.go xlp235_3 (by omega))); (try (have i_xlp235_2 := Imp.go xlp235_2 (by omega))); (try (have i_t8 := Imp.go t8 (by omega))); (try (have i_t8 := Imp.go t8 (by omega))); (try (have i_xlp235_2 := Imp.go xlp235_2 (by omega))); (try (have i_xlp235_3 := Imp.go xlp235_3 (by omega))); omega)) (show (V261 0 50).toInt = ((gd) : Int) from by first | omega | ((try (have i_xlp235_3 := Imp.go xlp235_3 (by omega))); (try (have i_xlp235_2 := Imp.go xlp235_2 (by omega))); (try (have i_t8 := Imp.go t8 (by omega))); (try (have i_t8 := Imp.go t8 (by omega))); (try (have i_xlp235_2 := Imp.go xlp235_2 (by omega))); (try (have i_xlp235_3 := Imp.go xlp235_3 (by omega))); omega)) (show (V261 0 50).toInt + (dd : Int) = 8 from by first | omega | ((try (have i_xlp235_3 := Imp.go xlp235_3 (by omega))); (try (have i_xlp235_2 := Imp.go xlp235_2 (by omega))); (try (have i_t8 := Imp.go t8 (by omega))); (try (have i_t8 := Imp.go t8 (by omega))); (try (have i_xlp235_2 := Imp.go xlp235_2 (by omega))); (try (have i_xlp235_3 := Imp.go xlp235_3 (by omega))); omega)) (EM.mv em ((up2_k hV261 (by decide)).trans ((ajV232 0 51 rfl).trans (ajV13 0 51 rfl))) ((up2_k hV261 (by decide)).trans ((ajV232 0 52 rfl).trans (ajV13 0 52 rfl))) (by rw [(up2_fo hV261 (by decide) : V261 27 = V232 27), (funext (fun q => ajV232 27 q rfl) : V232 27 = V13 27), (funext (fun q => ajV13 27 q rfl) : V13 27 = V 27)] : V261 27 = V 27) ((keepS.tr (keepS.tr (keepS.rf : keepS gs 0 gs) kq) (keepS.n1 1))).2.1)) w2124 w2126 w108 w172 w2127 rfl rfl hdV_yX12_product ⟨(by show 10 * dd + 11 + 1 ≤ 10 * dd + 12; omega), (by show 8 + (2 + 11) + (300 * dd + 340) ≤ 300 * dd + 380; omega)⟩ rfl hl.1 rfl (Nat.le_of_ble_eq_true rfl) dX12_sum_50 ⟨Nat.le_of_ble_eq_true rfl, Nat.le_of_ble_eq_true rfl⟩) hP hD hK hS hA (fun u271 H locs w272 hP hD hK hS => ?_)
                  obtain ⟨V278, L279⟩ := u271
                  obtain ⟨hMV278, ajV278, axL279, t273, t274, t275, t276, t277⟩ := w272
                  have alL279 : agL [35, 36, 37, 38, 45, 46, 47] L L279 := agL.tr alL233 axL279 (by decide)
                  have hP : va_P D vwCl (mw ad kk ks.1 V278 L279) H := hP
                  have hD : va_D A (mw ad kk ks.1 V278 L279) := hD
                  have hMV278 : rgd bM V278 := hMV278
                  have ajV278 : agr [(0, 7), (0, 8), (0, 48), (0, 50)] [35, 36, 37, 38, 45, 46, 47] V261 V278 := ajV278
                  have agV278 : agr [(0, 7), (0, 8), (0, 48), (0, 50)] [35, 36, 37, 38, 45, 46, 47] V V278 := agV261.tr ajV278 (by decide) (by decide)
                  have t273 : Imp ((V278 0 8).toInt = 0) ((V278 0 48).toInt - (V261 0 48).toInt ≤ 2 * ((V278 0 7).toInt - (V261 0 7).toInt)) := t273
                  have t274 : (V278 0 48).toInt ≤ 8049 - 6 * (V261 0 50).toInt := t274
                  have t275 : (V278 0 50).toInt = (V261 0 50).toInt := t275
                  have t276 : (V261 0 48).toInt ≤ (V278 0 48).toInt := t276
                  have t277 : RdM (gT) ((nx s1 1)) (fun k => Iprod (gd) :: k) (fun k => k) (V278 0 8).toInt (fun s9 => RelM V278 L279 (bq) (gn) (gT) s9 (gl) ∧ keepS ((nx s1 1)) 1 s9) := t277
                  have r280 : 0 ≤ ((V278 0 48)).toInt ∧ ((V278 0 48)).toInt ≤ 10000 := hMV278 0 48
                  have r281 : 0 ≤ ((V278 0 8)).toInt ∧ ((V278 0 8)).toInt ≤ 70000 := hMV278 0 8
                  have r282 : 0 ≤ ((V278 0 50)).toInt ∧ ((V278 0 50)).toInt ≤ 9 := hMV278 0 50
                  rcases t277 with ⟨q283, sx284, h285, rl286, kp287⟩ | ⟨q283, h285⟩
                  · skip
                    have hr288 : ∀ k, Rc gT (Crun gs (Isum gd :: k)) (Crun sx284 (IsumR gd :: k)) := fun k => (hr262 k).tr (h285 (IsumR gd :: k))
                    have fz289 := RelM.rg rl286
                    have ps290 := (kp287).1
                    refine lv_aload_n hx hb dX12_sum_53 rfl (lv_at hl 1 rfl) ?_
                    refine lv_iload_n hx hb dX12_sum_54 rfl (lv_at hl 0 rfl) ?_
                    refine lv_iconst (v := 0) hx hb dX12_sum_55 (by decide) ?_
                    refine lv_iconst (v := 0) hx hb dX12_sum_56 (by decide) ?_
                    have r291 : Int32.toInt 6 = 6 := by decide
                    have r292 : Int32.toInt 0 = 0 := by decide
                    refine gA_int (gA_runV (As := [.int 6, .int 0, .int 0]) (rest := []) (ci := 12) (q0 := 0) hx hb hml hown hg hP hD hK hS hA hnw hgk (s_emit3 l D ks H.size ad kk V278 L279 6 0 0 hMV278 (show (V278 0 48).toInt ≤ 9999 from by first | omega | ((try (have i_t273 := Imp.go t273 (by omega))); (try (have i_xlp235_3 := Imp.go xlp235_3 (by omega))); (try (have i_xlp235_2 := Imp.go xlp235_2 (by omega))); (try (have i_t8 := Imp.go t8 (by omega))); (try (have i_t8 := Imp.go t8 (by omega))); (try (have i_xlp235_2 := Imp.go xlp235_2 (by omega))); (try (have i_xlp235_3 := Imp.go xlp235_3 (by omega))); (try (have i_t273 := Imp.go t273 (by omega))); omega))) w2136 w2138 w111 w172 w2139 rfl rfl hdV_yX12_emit ⟨(by show 0 + 1 ≤ 10 * dd + 12; omega), (by show 8 + (4 + 11) + (0) ≤ 300 * dd + 380; omega)⟩ rfl hl.1 rfl (Nat.le_of_ble_eq_true rfl) dX12_sum_57 ⟨Nat.le_of_ble_eq_true rfl, Nat.le_of_ble_eq_true rfl⟩) hP hD hK hS hA (fun z293 u294 H locs w295 hP hD hK hS => ?_)
                    obtain ⟨V299, L300⟩ := u294
                    obtain ⟨hMV299, ajV299, axL300, rgz293, t296, t297, t298⟩ := w295
                    have axL300 : L279 = L300 := Eq.symm axL300
                    subst axL300
                    have hP : va_P D vwCl (mw ad kk ks.1 V299 L279) H := hP
                    have hD : va_D A (mw ad kk ks.1 V299 L279) := hD
                    have hMV299 : rgd bM V299 := hMV299
                    have ajV299 : agr [(0, 48)] [45, 46, 47] V278 V299 := ajV299
                    have agV299 : agr [(0, 7), (0, 8), (0, 48), (0, 50)] [35, 36, 37, 38, 45, 46, 47] V V299 := agV278.tr ajV299 (by decide) (by decide)
                    have rgz293 : 0 ≤ z293.toInt ∧ z293.toInt ≤ 20000 := rgz293
                    have t296 : (V299 0 48).toInt = (V278 0 48).toInt + 1 := t296
                    have t297 : z293.toInt = (V278 0 49).toInt + (V278 0 48).toInt := t297
                    have t298 : emitted V278 V299 (pA V278) 6 0 0 := t298
                    have r301 : 0 ≤ ((V299 0 48)).toInt ∧ ((V299 0 48)).toInt ≤ 10000 := hMV299 0 48
                    have pq302 : (V278 0 49).toInt = ((V 0 49)).toInt := congrArg Int32.toInt ((ajV278 0 49 rfl).trans ((up2_k hV261 (by decide)).trans ((ajV232 0 49 rfl).trans (ajV13 0 49 rfl))))
                    have r303 : 0 ≤ ((V 0 49)).toInt ∧ ((V 0 49)).toInt ≤ 10000 := hMV 0 49
                    refine lv_istore_n (lv' := [(2, .int z293), (1, .int 6), (0, .ref (ad 0))]) hx hb dX12_sum_60 rfl hl (by decide) rfl (fun ls hl => ?_)
                    refine lv_goto (tgt := 4) hx hb dX12_sum_61 (by decide) ?_
                    have pq304 : (V299 0 7).toInt = ((V278 0 7)).toInt := congrArg Int32.toInt (ajV299 0 7 rfl)
                    have pq305 : (V299 0 8).toInt = ((V278 0 8)).toInt := congrArg Int32.toInt (ajV299 0 8 rfl)
                    have pq306 : (V299 0 50).toInt = ((V278 0 50)).toInt := congrArg Int32.toInt (ajV299 0 50 rfl)
                    have rl307 : RelM V299 L279 bq gn gT sx284 gl := RelM.ag rl286 (show agr [(0, 48)] [45, 46, 47] V278 V299 from (agr.tr agr.rf ajV299 (by decide) (by decide))) (by decide) (show agL [] L279 L279 from agL.rf) (by decide)
                    exact ihlp235 (g234 - 1) V299 L279 H locs ls (Or.inl ⟨W0 rl307, sx284, hr288, rl307, keepS.le (keepS.tr (keepS.tr (keepS.tr (keepS.rf : keepS gs 0 gs) kq) (keepS.n1 1)) kp287) (by decide)⟩) (show 0 ≤ (g234 - 1) from by first | omega | ((try (have i_t273 := Imp.go t273 (by omega))); (try (have i_xlp235_3 := Imp.go xlp235_3 (by omega))); (try (have i_xlp235_2 := Imp.go xlp235_2 (by omega))); (try (have i_t8 := Imp.go t8 (by omega))); (try (have i_t8 := Imp.go t8 (by omega))); (try (have i_xlp235_2 := Imp.go xlp235_2 (by omega))); (try (have i_xlp235_3 := Imp.go xlp235_3 (by omega))); (try (have i_t273 := Imp.go t273 (by omega))); omega)) (Imp.mk (fun hp => have hp : (V299 0 8).toInt = 0 := hp; (show (gn : Int) - (V299 0 7).toInt < (g234 - 1) from by first | omega | ((try (have i_t273 := Imp.go t273 (by omega))); (try (have i_xlp235_3 := Imp.go xlp235_3 (by omega))); (try (have i_xlp235_2 := Imp.go xlp235_2 (by omega))); (try (have i_t8 := Imp.go t8 (by omega))); (try (have i_t8 := Imp.go t8 (by omega))); (try (have i_xlp235_2 := Imp.go xlp235_2 (by omega))); (try (have i_xlp235_3 := Imp.go xlp235_3 (by omega))); (try (have i_t273 := Imp.go t273 (by omega))); omega)))) (Imp.mk (fun hp => have hp : (V299 0 8).toInt = 0 := hp; (show (V299 0 48).toInt - (V 0 48).toInt ≤ 2 * ((V299 0 7).toInt - (V 0 7).toInt) from by first | omega | ((try (have i_t273 := Imp.go t273 (by omega))); (try (have i_xlp235_3 := Imp.go xlp235_3 (by omega))); (try (have i_xlp235_2 := Imp.go xlp235_2 (by omega))); (try (have i_t8 := Imp.go t8 (by omega))); (try (have i_t8 := Imp.go t8 (by omega))); (try (have i_xlp235_2 := Imp.go xlp235_2 (by omega))); (try (have i_xlp235_3 := Imp.go xlp235_3 (by omega))); (try (have i_t273 := Imp.go t273 (by omega))); omega)))) (show (V299 0 48).toInt ≤ 8050 - 6 * (V 0 50).toInt from by first | omega | ((try (have i_t273 := Imp.go t273 (by omega))); (try (have i_xlp235_3 := Imp.go xlp235_3 (by omega))); (try (have i_xlp235_2 := Imp.go xlp235_2 (by omega))); (try (have i_t8 := Imp.go t8 (by omega))); (try (have i_t8 := Imp.go t8 (by omega))); (try (have i_xlp235_2 := Imp.go xlp235_2 (by omega))); (try (have i_xlp235_3 := Imp.go xlp235_3 (by omega))); (try (have i_t273 := Imp.go t273 (by omega))); omega)) (show (V299 0 50).toInt = (V 0 50).toInt from by first | omega | ((try (have i_t273 := Imp.go t273 (by omega))); (try (have i_xlp235_3 := Imp.go xlp235_3 (by omega))); (try (have i_xlp235_2 := Imp.go xlp235_2 (by omega))); (try (have i_t8 := Imp.go t8 (by omega))); (try (have i_t8 := Imp.go t8 (by omega))); (try (have i_xlp235_2 := Imp.go xlp235_2 (by omega))); (try (have i_xlp235_3 := Imp.go xlp235_3 (by omega))); (try (have i_t273 := Imp.go t273 (by omega))); omega)) (show (V 0 48).toInt ≤ (V299 0 48).toInt from by first | omega | ((try (have i_t273 := Imp.go t273 (by omega))); (try (have i_xlp235_3 := Imp.go xlp235_3 (by omega))); (try (have i_xlp235_2 := Imp.go xlp235_2 (by omega))); (try (have i_t8 := Imp.go t8 (by omega))); (try (have i_t8 := Imp.go t8 (by omega))); (try (have i_xlp235_2 := Imp.go xlp235_2 (by omega))); (try (have i_xlp235_3 := Imp.go xlp235_3 (by omega))); (try (have i_t273 := Imp.go t273 (by omega))); omega)) (by first | omega | ((try (have i_t273 := Imp.go t273 (by omega))); (try (have i_xlp235_3 := Imp.go xlp235_3 (by omega))); (try (have i_xlp235_2 := Imp.go xlp235_2 (by omega))); (try (have i_t8 := Imp.go t8 (by omega))); (try (have i_t8 := Imp.go t8 (by omega))); (try (have i_xlp235_2 := Imp.go xlp235_2 (by omega))); (try (have i_xlp235_3 := Imp.go xlp235_3 (by omega))); (try (have i_t273 := Imp.go t273 (by omega))); omega)) alL279 (agr.tr (agr.tr (agr.up (agr.tr agr.rf ajV232 (by decide) (by decide)) hV261 rfl) ajV278 (by decide) (by decide)) ajV299 (by decide) (by decide)) hMV299 hP hD hS (lv_sub hl [2] rfl)
                  · skip
                    have hb308 : ∀ k, Rc gT (Crun gs (Isum gd :: k)) (Cbad (V278 0 8).toInt) := fun k => (hr262 k).tr (h285 (IsumR gd :: k))
                    refine lv_aload_n hx hb dX12_sum_53 rfl (lv_at hl 1 rfl) ?_
                    refine lv_iload_n hx hb dX12_sum_54 rfl (lv_at hl 0 rfl) ?_
                    refine lv_iconst (v := 0) hx hb dX12_sum_55 (by decide) ?_
                    refine lv_iconst (v := 0) hx hb dX12_sum_56 (by decide) ?_
                    have r309 : Int32.toInt 6 = 6 := by decide
                    have r310 : Int32.toInt 0 = 0 := by decide
                    refine gA_int (gA_runV (As := [.int 6, .int 0, .int 0]) (rest := []) (ci := 12) (q0 := 0) hx hb hml hown hg hP hD hK hS hA hnw hgk (s_emit3 l D ks H.size ad kk V278 L279 6 0 0 hMV278 (show (V278 0 48).toInt ≤ 9999 from by first | omega | ((try (have i_t273 := Imp.go t273 (by omega))); (try (have i_xlp235_3 := Imp.go xlp235_3 (by omega))); (try (have i_xlp235_2 := Imp.go xlp235_2 (by omega))); (try (have i_t8 := Imp.go t8 (by omega))); (try (have i_t8 := Imp.go t8 (by omega))); (try (have i_xlp235_2 := Imp.go xlp235_2 (by omega))); (try (have i_xlp235_3 := Imp.go xlp235_3 (by omega))); (try (have i_t273 := Imp.go t273 (by omega))); omega))) w2136 w2138 w111 w172 w2139 rfl rfl hdV_yX12_emit ⟨(by show 0 + 1 ≤ 10 * dd + 12; omega), (by show 8 + (4 + 11) + (0) ≤ 300 * dd + 380; omega)⟩ rfl hl.1 rfl (Nat.le_of_ble_eq_true rfl) dX12_sum_57 ⟨Nat.le_of_ble_eq_true rfl, Nat.le_of_ble_eq_true rfl⟩) hP hD hK hS hA (fun z311 u312 H locs w313 hP hD hK hS => ?_)
                    obtain ⟨V317, L318⟩ := u312
                    obtain ⟨hMV317, ajV317, axL318, rgz311, t314, t315, t316⟩ := w313
                    have axL318 : L279 = L318 := Eq.symm axL318
                    subst axL318
                    have hP : va_P D vwCl (mw ad kk ks.1 V317 L279) H := hP
                    have hD : va_D A (mw ad kk ks.1 V317 L279) := hD
                    have hMV317 : rgd bM V317 := hMV317
                    have ajV317 : agr [(0, 48)] [45, 46, 47] V278 V317 := ajV317
                    have agV317 : agr [(0, 7), (0, 8), (0, 48), (0, 50)] [35, 36, 37, 38, 45, 46, 47] V V317 := agV278.tr ajV317 (by decide) (by decide)
                    have rgz311 : 0 ≤ z311.toInt ∧ z311.toInt ≤ 20000 := rgz311
                    have t314 : (V317 0 48).toInt = (V278 0 48).toInt + 1 := t314
                    have t315 : z311.toInt = (V278 0 49).toInt + (V278 0 48).toInt := t315
                    have t316 : emitted V278 V317 (pA V278) 6 0 0 := t316
                    have r319 : 0 ≤ ((V317 0 48)).toInt ∧ ((V317 0 48)).toInt ≤ 10000 := hMV317 0 48
                    have pq320 : (V278 0 49).toInt = ((V 0 49)).toInt := congrArg Int32.toInt ((ajV278 0 49 rfl).trans ((up2_k hV261 (by decide)).trans ((ajV232 0 49 rfl).trans (ajV13 0 49 rfl))))
                    have r321 : 0 ≤ ((V 0 49)).toInt ∧ ((V 0 49)).toInt ≤ 10000 := hMV 0 49
                    refine lv_istore_n (lv' := [(2, .int z311), (1, .int 6), (0, .ref (ad 0))]) hx hb dX12_sum_60 rfl hl (by decide) rfl (fun ls hl => ?_)
                    refine lv_goto (tgt := 4) hx hb dX12_sum_61 (by decide) ?_
                    have pq322 : (V317 0 7).toInt = ((V278 0 7)).toInt := congrArg Int32.toInt (ajV317 0 7 rfl)
                    have pq323 : (V317 0 8).toInt = ((V278 0 8)).toInt := congrArg Int32.toInt (ajV317 0 8 rfl)
                    have pq324 : (V317 0 50).toInt = ((V278 0 50)).toInt := congrArg Int32.toInt (ajV317 0 50 rfl)
                    exact ihlp235 (g234 - 1) V317 L279 H locs ls (Or.inr ⟨(show 1 ≤ (V317 0 8).toInt from by omega), (fun k => by rw [show (V317 0 8).toInt = (V278 0 8).toInt from by omega]; exact hb308 k)⟩) (show 0 ≤ (g234 - 1) from by first | omega | ((try (have i_t273 := Imp.go t273 (by omega))); (try (have i_xlp235_3 := Imp.go xlp235_3 (by omega))); (try (have i_xlp235_2 := Imp.go xlp235_2 (by omega))); (try (have i_t8 := Imp.go t8 (by omega))); (try (have i_t8 := Imp.go t8 (by omega))); (try (have i_xlp235_2 := Imp.go xlp235_2 (by omega))); (try (have i_xlp235_3 := Imp.go xlp235_3 (by omega))); (try (have i_t273 := Imp.go t273 (by omega))); omega)) (Imp.mk (fun hp => have hp : (V317 0 8).toInt = 0 := hp; (show (gn : Int) - (V317 0 7).toInt < (g234 - 1) from by first | omega | ((try (have i_t273 := Imp.go t273 (by omega))); (try (have i_xlp235_3 := Imp.go xlp235_3 (by omega))); (try (have i_xlp235_2 := Imp.go xlp235_2 (by omega))); (try (have i_t8 := Imp.go t8 (by omega))); (try (have i_t8 := Imp.go t8 (by omega))); (try (have i_xlp235_2 := Imp.go xlp235_2 (by omega))); (try (have i_xlp235_3 := Imp.go xlp235_3 (by omega))); (try (have i_t273 := Imp.go t273 (by omega))); omega)))) (Imp.mk (fun hp => have hp : (V317 0 8).toInt = 0 := hp; (show (V317 0 48).toInt - (V 0 48).toInt ≤ 2 * ((V317 0 7).toInt - (V 0 7).toInt) from by first | omega | ((try (have i_t273 := Imp.go t273 (by omega))); (try (have i_xlp235_3 := Imp.go xlp235_3 (by omega))); (try (have i_xlp235_2 := Imp.go xlp235_2 (by omega))); (try (have i_t8 := Imp.go t8 (by omega))); (try (have i_t8 := Imp.go t8 (by omega))); (try (have i_xlp235_2 := Imp.go xlp235_2 (by omega))); (try (have i_xlp235_3 := Imp.go xlp235_3 (by omega))); (try (have i_t273 := Imp.go t273 (by omega))); omega)))) (show (V317 0 48).toInt ≤ 8050 - 6 * (V 0 50).toInt from by first | omega | ((try (have i_t273 := Imp.go t273 (by omega))); (try (have i_xlp235_3 := Imp.go xlp235_3 (by omega))); (try (have i_xlp235_2 := Imp.go xlp235_2 (by omega))); (try (have i_t8 := Imp.go t8 (by omega))); (try (have i_t8 := Imp.go t8 (by omega))); (try (have i_xlp235_2 := Imp.go xlp235_2 (by omega))); (try (have i_xlp235_3 := Imp.go xlp235_3 (by omega))); (try (have i_t273 := Imp.go t273 (by omega))); omega)) (show (V317 0 50).toInt = (V 0 50).toInt from by first | omega | ((try (have i_t273 := Imp.go t273 (by omega))); (try (have i_xlp235_3 := Imp.go xlp235_3 (by omega))); (try (have i_xlp235_2 := Imp.go xlp235_2 (by omega))); (try (have i_t8 := Imp.go t8 (by omega))); (try (have i_t8 := Imp.go t8 (by omega))); (try (have i_xlp235_2 := Imp.go xlp235_2 (by omega))); (try (have i_xlp235_3 := Imp.go xlp235_3 (by omega))); (try (have i_t273 := Imp.go t273 (by omega))); omega)) (show (V 0 48).toInt ≤ (V317 0 48).toInt from by first | omega | ((try (have i_t273 := Imp.go t273 (by omega))); (try (have i_xlp235_3 := Imp.go xlp235_3 (by omega))); (try (have i_xlp235_2 := Imp.go xlp235_2 (by omega))); (try (have i_t8 := Imp.go t8 (by omega))); (try (have i_t8 := Imp.go t8 (by omega))); (try (have i_xlp235_2 := Imp.go xlp235_2 (by omega))); (try (have i_xlp235_3 := Imp.go xlp235_3 (by omega))); (try (have i_t273 := Imp.go t273 (by omega))); omega)) (by first | omega | ((try (have i_t273 := Imp.go t273 (by omega))); (try (have i_xlp235_3 := Imp.go xlp235_3 (by omega))); (try (have i_xlp235_2 := Imp.go xlp235_2 (by omega))); (try (have i_t8 := Imp.go t8 (by omega))); (try (have i_t8 := Imp.go t8 (by omega))); (try (have i_xlp235_2 := Imp.go xlp235_2 (by omega))); (try (have i_xlp235_3 := Imp.go xlp235_3 (by omega))); (try (have i_t273 := Imp.go t273 (by omega))); omega)) alL279 (agr.tr (agr.tr (agr.up (agr.tr agr.rf ajV232 (by decide) (by decide)) hV261 rfl) ajV278 (by decide) (by decide)) ajV317 (by decide) (by decide)) hMV317 hP hD hS (lv_sub hl [2] rfl)
              · skip
                have kd325 : gT.1 (s1.1 0) ≠ 43 := fun h9 => h255 (h9.trans (by decide))
                exact absurd kd247 kd325
            · skip
              have f326 : z241.toInt = 0 := b_eq rfl (by decide) c248
              exfalso; first | omega | ((try (have i_xlp235_3 := Imp.go xlp235_3 (by omega))); (try (have i_xlp235_2 := Imp.go xlp235_2 (by omega))); (try (have i_t8 := Imp.go t8 (by omega))); (try (have i_t8 := Imp.go t8 (by omega))); (try (have i_xlp235_2 := Imp.go xlp235_2 (by omega))); (try (have i_xlp235_3 := Imp.go xlp235_3 (by omega))); omega)
          · skip
            have kd327 : gT.1 (s1.1 0) ≠ 43 := fun h9 => h246 (h9.trans (by decide))
            refine lv_if_ne (tgt := 22) hx hb dX12_sum_10 (by decide) (fun c328 => ?_) (fun c328 => ?_)
            · skip
              have f329 : z241.toInt ≠ 0 := b_neq rfl (by decide) c328
              exfalso; first | omega | ((try (have i_xlp235_3 := Imp.go xlp235_3 (by omega))); (try (have i_xlp235_2 := Imp.go xlp235_2 (by omega))); (try (have i_t8 := Imp.go t8 (by omega))); (try (have i_t8 := Imp.go t8 (by omega))); (try (have i_xlp235_2 := Imp.go xlp235_2 (by omega))); (try (have i_xlp235_3 := Imp.go xlp235_3 (by omega))); omega)
            · skip
              have f330 : z241.toInt = 0 := b_eq rfl (by decide) c328
              refine lv_aload_n hx hb dX12_sum_13 rfl (lv_at hl 0 rfl) ?_
              refine lv_bipush (v := 45) hx hb dX12_sum_14 (by decide) ?_
              have r331 : Int32.toInt 45 = 45 := by decide
              refine gA_int (gA_runV (As := [.int 45]) (rest := []) (ci := 12) (q0 := 0) hx hb hml hown hg hP hD hK hS hA hnw hgk (s_isSignA l D ks H.size ad kk V232 L233 45 (bq) (gn) (gT) (s1) (gl) hMV232 rq (sg_yes (j := 45) (by decide) (by decide) (by decide))) w2071 w2073 w95 w172 w2074 rfl rfl hdV_yX12_isSign ⟨(by show 0 + 1 ≤ 10 * dd + 12; omega), (by show 8 + (2 + 11) + (0) ≤ 300 * dd + 380; omega)⟩ rfl hl.1 rfl (Nat.le_of_ble_eq_true rfl) dX12_sum_16 ⟨Nat.le_of_ble_eq_true rfl, Nat.le_of_ble_eq_true rfl⟩) hP hD hK hS hA (fun z332 u333 H locs w334 hP hD hK hS => ?_)
              obtain ⟨rgz332, t335⟩ := w334
              have rgz332 : 0 ≤ z332.toInt ∧ z332.toInt ≤ 1 := rgz332
              have t335 : (z332.toInt = 1 ∧ (gT).1 ((s1).1 0) = (Int32.toInt 45)) ∨ (z332.toInt = 0 ∧ (gT).1 ((s1).1 0) ≠ (Int32.toInt 45)) := t335
              rcases t335 with ⟨q336, h337⟩ | ⟨q336, h337⟩
              · skip
                have kd338 : gT.1 (s1.1 0) = 45 := h337.trans (by decide)
                refine lv_if_eq (tgt := 64) hx hb dX12_sum_19 (by decide) (fun c339 => ?_) (fun c339 => ?_)
                · skip
                  have f340 : z332.toInt = 0 := b_eq rfl (by decide) c339
                  exfalso; first | omega | ((try (have i_xlp235_3 := Imp.go xlp235_3 (by omega))); (try (have i_xlp235_2 := Imp.go xlp235_2 (by omega))); (try (have i_t8 := Imp.go t8 (by omega))); (try (have i_t8 := Imp.go t8 (by omega))); (try (have i_xlp235_2 := Imp.go xlp235_2 (by omega))); (try (have i_xlp235_3 := Imp.go xlp235_3 (by omega))); omega)
                · skip
                  have f341 : z332.toInt ≠ 0 := b_neq rfl (by decide) c339
                  refine lv_aload_n hx hb dX12_sum_22 rfl (lv_at hl 0 rfl) ?_
                  refine lv_bipush (v := 43) hx hb dX12_sum_23 (by decide) ?_
                  refine gA_int (gA_runV (As := [.int 43]) (rest := []) (ci := 12) (q0 := 0) hx hb hml hown hg hP hD hK hS hA hnw hgk (s_isSignA l D ks H.size ad kk V232 L233 43 (bq) (gn) (gT) (s1) (gl) hMV232 rq (sg_yes (j := 43) (by decide) (by decide) (by decide))) w2071 w2073 w95 w172 w2074 rfl rfl hdV_yX12_isSign ⟨(by show 0 + 1 ≤ 10 * dd + 12; omega), (by show 8 + (2 + 11) + (0) ≤ 300 * dd + 380; omega)⟩ rfl hl.1 rfl (Nat.le_of_ble_eq_true rfl) dX12_sum_25 ⟨Nat.le_of_ble_eq_true rfl, Nat.le_of_ble_eq_true rfl⟩) hP hD hK hS hA (fun z342 u343 H locs w344 hP hD hK hS => ?_)
                  obtain ⟨rgz342, t345⟩ := w344
                  have rgz342 : 0 ≤ z342.toInt ∧ z342.toInt ≤ 1 := rgz342
                  have t345 : (z342.toInt = 1 ∧ (gT).1 ((s1).1 0) = (Int32.toInt 43)) ∨ (z342.toInt = 0 ∧ (gT).1 ((s1).1 0) ≠ (Int32.toInt 43)) := t345
                  rcases t345 with ⟨q346, h347⟩ | ⟨q346, h347⟩
                  · skip
                    have kd348 : gT.1 (s1.1 0) = 43 := h347.trans (by decide)
                    exact absurd (kd338.symm.trans kd348) (by decide)
                  · skip
                    have kd349 : gT.1 (s1.1 0) ≠ 43 := fun h9 => h347 (h9.trans (by decide))
                    refine lv_if_eq (tgt := 36) hx hb dX12_sum_28 (by decide) (fun c350 => ?_) (fun c350 => ?_)
                    · skip
                      have f351 : z342.toInt = 0 := b_eq rfl (by decide) c350
                      refine lv_bipush (v := 7) hx hb dX12_sum_36 (by decide) ?_
                      refine lv_istore_n (lv' := [(1, .int 7), (0, .ref (ad 0))]) hx hb dX12_sum_38 rfl hl (by decide) rfl (fun ls hl => ?_)
                      refine lv_aload_n hx hb dX12_sum_39 rfl (lv_at hl 1 rfl) ?_
                      refine lv_dup hx hb dX12_sum_40 rfl ?_
                      refine va_get (D := D) (ci := 12) (v := .int (V232 0 7)) (C := RX12) (T := TX12) (N := 100) hx hb hg inX12 hown hK hP 0 rfl rfl 7 (by decide) (hg _ w1713) (fun _ h9 => h9) rfl dX12_sum_41 ?_
                      refine lv_iconst (v := 1) hx hb dX12_sum_44 (by decide) ?_
                      refine lv_iadd hx hb dX12_sum_45 ?_
                      refine lv_topi (fun z352 ez352 => ?_)
                      have hz352 : z352.toInt = ((V232 0 7)).toInt + 1 := i_add ez352 rfl (by decide) (by omega)
                      refine va_put (D := D) (ci := 12) (v := .int z352) (ty := tyX12 7) (C := RX12) (T := TX12) (N := 100) hx hb hg inX12 tyX12 tyX12_ok nmX12 hown hK hP hD hS 0 rfl rfl 7 (by decide) (hg _ w1713) (fun _ h9 => h9) rfl (tyX12_ok 7 (by decide)) rfl rfl (Nat.le_of_ble_eq_true rfl) dX12_sum_46 (fun H locs hP hD hS => ?_)
                      obtain ⟨V353, hV353⟩ : ∃ z, z = up2 V232 0 7 z352 := ⟨_, rfl⟩
                      have hP : va_P D vwCl (mw ad kk ks.1 V353 L233) H := by rw [hV353]; exact hP
                      have hD : va_D A (mw ad kk ks.1 V353 L233) := by rw [hV353]; exact hD
                      have hMV353 : rgd bM V353 := hMV232.put hV353 (i_full _)
                      have agV353 : agr [(0, 7), (0, 8), (0, 48), (0, 50)] [35, 36, 37, 38, 45, 46, 47] V V353 := agV232.up hV353 rfl
                      have hr354 : ∀ k, Rc gT (Crun gs (Isum gd :: k)) (Crun (nx s1 1) (Iprod gd :: IsumR gd :: k)) := fun k => Rc.go1 (hq k) (sumR_y gd (Or.inr kd338))
                      have rl355 : RelM V353 L233 bq gn gT (nx s1 1) gl := RelM.n1 rq hV353 (by omega) (by rw [kd338]; decide)
                      have ps356 : (nx s1 1).1 0 = s1.1 0 + 1 := rfl
                      have fz357 := RelM.rg rl355
                      have pq358 : (V353 0 8).toInt = ((V232 0 8)).toInt := congrArg Int32.toInt (up2_k hV353 (by decide))
                      have pq359 : (V353 0 7).toInt = z352.toInt := congrArg Int32.toInt (up2_s hV353)
                      refine lv_aload_n hx hb dX12_sum_49 rfl (lv_at hl 1 rfl) ?_
                      have pq360 : (V353 0 48).toInt = ((V232 0 48)).toInt := congrArg Int32.toInt (up2_k hV353 (by decide))
                      have pq361 : (V353 0 50).toInt = ((V232 0 50)).toInt := congrArg Int32.toInt (up2_k hV353 (by decide))
                      refine gA_void (gA_runV (As := []) (rest := []) (ci := 12) (q0 := 0) hx hb hml hown hg hP hD hK hS hA hnw hgk (hk_s_productA H.size ad kk V353 L233 (bq) (gn) (gT) ((nx s1 1)) (gl) (gd) hMV353 rl355 (show (V353 0 48).toInt ≤ 2 * (V353 0 7).toInt from by first | omega | ((try (have i_xlp235_3 := Imp.go xlp235_3 (by omega))); (try (have i_xlp235_2 := Imp.go xlp235_2 (by omega))); (try (have i_t8 := Imp.go t8 (by omega))); (try (have i_t8 := Imp.go t8 (by omega))); (try (have i_xlp235_2 := Imp.go xlp235_2 (by omega))); (try (have i_xlp235_3 := Imp.go xlp235_3 (by omega))); omega)) (show (V353 0 50).toInt = ((gd) : Int) from by first | omega | ((try (have i_xlp235_3 := Imp.go xlp235_3 (by omega))); (try (have i_xlp235_2 := Imp.go xlp235_2 (by omega))); (try (have i_t8 := Imp.go t8 (by omega))); (try (have i_t8 := Imp.go t8 (by omega))); (try (have i_xlp235_2 := Imp.go xlp235_2 (by omega))); (try (have i_xlp235_3 := Imp.go xlp235_3 (by omega))); omega)) (show (V353 0 50).toInt + (dd : Int) = 8 from by first | omega | ((try (have i_xlp235_3 := Imp.go xlp235_3 (by omega))); (try (have i_xlp235_2 := Imp.go xlp235_2 (by omega))); (try (have i_t8 := Imp.go t8 (by omega))); (try (have i_t8 := Imp.go t8 (by omega))); (try (have i_xlp235_2 := Imp.go xlp235_2 (by omega))); (try (have i_xlp235_3 := Imp.go xlp235_3 (by omega))); omega)) (EM.mv em ((up2_k hV353 (by decide)).trans ((ajV232 0 51 rfl).trans (ajV13 0 51 rfl))) ((up2_k hV353 (by decide)).trans ((ajV232 0 52 rfl).trans (ajV13 0 52 rfl))) (by rw [(up2_fo hV353 (by decide) : V353 27 = V232 27), (funext (fun q => ajV232 27 q rfl) : V232 27 = V13 27), (funext (fun q => ajV13 27 q rfl) : V13 27 = V 27)] : V353 27 = V 27) ((keepS.tr (keepS.tr (keepS.rf : keepS gs 0 gs) kq) (keepS.n1 1))).2.1)) w2124 w2126 w108 w172 w2127 rfl rfl hdV_yX12_product ⟨(by show 10 * dd + 11 + 1 ≤ 10 * dd + 12; omega), (by show 8 + (2 + 11) + (300 * dd + 340) ≤ 300 * dd + 380; omega)⟩ rfl hl.1 rfl (Nat.le_of_ble_eq_true rfl) dX12_sum_50 ⟨Nat.le_of_ble_eq_true rfl, Nat.le_of_ble_eq_true rfl⟩) hP hD hK hS hA (fun u363 H locs w364 hP hD hK hS => ?_)
                      obtain ⟨V370, L371⟩ := u363
                      obtain ⟨hMV370, ajV370, axL371, t365, t366, t367, t368, t369⟩ := w364
                      have alL371 : agL [35, 36, 37, 38, 45, 46, 47] L L371 := agL.tr alL233 axL371 (by decide)
                      have hP : va_P D vwCl (mw ad kk ks.1 V370 L371) H := hP
                      have hD : va_D A (mw ad kk ks.1 V370 L371) := hD
                      have hMV370 : rgd bM V370 := hMV370
                      have ajV370 : agr [(0, 7), (0, 8), (0, 48), (0, 50)] [35, 36, 37, 38, 45, 46, 47] V353 V370 := ajV370
                      have agV370 : agr [(0, 7), (0, 8), (0, 48), (0, 50)] [35, 36, 37, 38, 45, 46, 47] V V370 := agV353.tr ajV370 (by decide) (by decide)
                      have t365 : Imp ((V370 0 8).toInt = 0) ((V370 0 48).toInt - (V353 0 48).toInt ≤ 2 * ((V370 0 7).toInt - (V353 0 7).toInt)) := t365
                      have t366 : (V370 0 48).toInt ≤ 8049 - 6 * (V353 0 50).toInt := t366
                      have t367 : (V370 0 50).toInt = (V353 0 50).toInt := t367
                      have t368 : (V353 0 48).toInt ≤ (V370 0 48).toInt := t368
                      have t369 : RdM (gT) ((nx s1 1)) (fun k => Iprod (gd) :: k) (fun k => k) (V370 0 8).toInt (fun s9 => RelM V370 L371 (bq) (gn) (gT) s9 (gl) ∧ keepS ((nx s1 1)) 1 s9) := t369
                      have r372 : 0 ≤ ((V370 0 48)).toInt ∧ ((V370 0 48)).toInt ≤ 10000 := hMV370 0 48
                      have r373 : 0 ≤ ((V370 0 8)).toInt ∧ ((V370 0 8)).toInt ≤ 70000 := hMV370 0 8
                      have r374 : 0 ≤ ((V370 0 50)).toInt ∧ ((V370 0 50)).toInt ≤ 9 := hMV370 0 50
                      rcases t369 with ⟨q375, sx376, h377, rl378, kp379⟩ | ⟨q375, h377⟩
                      · skip
                        have hr380 : ∀ k, Rc gT (Crun gs (Isum gd :: k)) (Crun sx376 (IsumR gd :: k)) := fun k => (hr354 k).tr (h377 (IsumR gd :: k))
                        have fz381 := RelM.rg rl378
                        have ps382 := (kp379).1
                        refine lv_aload_n hx hb dX12_sum_53 rfl (lv_at hl 1 rfl) ?_
                        refine lv_iload_n hx hb dX12_sum_54 rfl (lv_at hl 0 rfl) ?_
                        refine lv_iconst (v := 0) hx hb dX12_sum_55 (by decide) ?_
                        refine lv_iconst (v := 0) hx hb dX12_sum_56 (by decide) ?_
                        have r383 : Int32.toInt 7 = 7 := by decide
                        have r384 : Int32.toInt 0 = 0 := by decide
                        refine gA_int (gA_runV (As := [.int 7, .int 0, .int 0]) (rest := []) (ci := 12) (q0 := 0) hx hb hml hown hg hP hD hK hS hA hnw hgk (s_emit3 l D ks H.size ad kk V370 L371 7 0 0 hMV370 (show (V370 0 48).toInt ≤ 9999 from by first | omega | ((try (have i_t365 := Imp.go t365 (by omega))); (try (have i_xlp235_3 := Imp.go xlp235_3 (by omega))); (try (have i_xlp235_2 := Imp.go xlp235_2 (by omega))); (try (have i_t8 := Imp.go t8 (by omega))); (try (have i_t8 := Imp.go t8 (by omega))); (try (have i_xlp235_2 := Imp.go xlp235_2 (by omega))); (try (have i_xlp235_3 := Imp.go xlp235_3 (by omega))); (try (have i_t365 := Imp.go t365 (by omega))); omega))) w2136 w2138 w111 w172 w2139 rfl rfl hdV_yX12_emit ⟨(by show 0 + 1 ≤ 10 * dd + 12; omega), (by show 8 + (4 + 11) + (0) ≤ 300 * dd + 380; omega)⟩ rfl hl.1 rfl (Nat.le_of_ble_eq_true rfl) dX12_sum_57 ⟨Nat.le_of_ble_eq_true rfl, Nat.le_of_ble_eq_true rfl⟩) hP hD hK hS hA (fun z385 u386 H locs w387 hP hD hK hS => ?_)
                        obtain ⟨V391, L392⟩ := u386
                        obtain ⟨hMV391, ajV391, axL392, rgz385, t388, t389, t390⟩ := w387
                        have axL392 : L371 = L392 := Eq.symm axL392
                        subst axL392
                        have hP : va_P D vwCl (mw ad kk ks.1 V391 L371) H := hP
                        have hD : va_D A (mw ad kk ks.1 V391 L371) := hD
                        have hMV391 : rgd bM V391 := hMV391
                        have ajV391 : agr [(0, 48)] [45, 46, 47] V370 V391 := ajV391
                        have agV391 : agr [(0, 7), (0, 8), (0, 48), (0, 50)] [35, 36, 37, 38, 45, 46, 47] V V391 := agV370.tr ajV391 (by decide) (by decide)
                        have rgz385 : 0 ≤ z385.toInt ∧ z385.toInt ≤ 20000 := rgz385
                        have t388 : (V391 0 48).toInt = (V370 0 48).toInt + 1 := t388
                        have t389 : z385.toInt = (V370 0 49).toInt + (V370 0 48).toInt := t389
                        have t390 : emitted V370 V391 (pA V370) 7 0 0 := t390
                        have r393 : 0 ≤ ((V391 0 48)).toInt ∧ ((V391 0 48)).toInt ≤ 10000 := hMV391 0 48
                        have pq394 : (V370 0 49).toInt = ((V 0 49)).toInt := congrArg Int32.toInt ((ajV370 0 49 rfl).trans ((up2_k hV353 (by decide)).trans ((ajV232 0 49 rfl).trans (ajV13 0 49 rfl))))
                        have r395 : 0 ≤ ((V 0 49)).toInt ∧ ((V 0 49)).toInt ≤ 10000 := hMV 0 49
                        refine lv_istore_n (lv' := [(2, .int z385), (1, .int 7), (0, .ref (ad 0))]) hx hb dX12_sum_60 rfl hl (by decide) rfl (fun ls hl => ?_)
                        refine lv_goto (tgt := 4) hx hb dX12_sum_61 (by decide) ?_
                        have pq396 : (V391 0 7).toInt = ((V370 0 7)).toInt := congrArg Int32.toInt (ajV391 0 7 rfl)
                        have pq397 : (V391 0 8).toInt = ((V370 0 8)).toInt := congrArg Int32.toInt (ajV391 0 8 rfl)
                        have pq398 : (V391 0 50).toInt = ((V370 0 50)).toInt := congrArg Int32.toInt (ajV391 0 50 rfl)
                        have rl399 : RelM V391 L371 bq gn gT sx376 gl := RelM.ag rl378 (show agr [(0, 48)] [45, 46, 47] V370 V391 from (agr.tr agr.rf ajV391 (by decide) (by decide))) (by decide) (show agL [] L371 L371 from agL.rf) (by decide)
                        exact ihlp235 (g234 - 1) V391 L371 H locs ls (Or.inl ⟨W0 rl399, sx376, hr380, rl399, keepS.le (keepS.tr (keepS.tr (keepS.tr (keepS.rf : keepS gs 0 gs) kq) (keepS.n1 1)) kp379) (by decide)⟩) (show 0 ≤ (g234 - 1) from by first | omega | ((try (have i_t365 := Imp.go t365 (by omega))); (try (have i_xlp235_3 := Imp.go xlp235_3 (by omega))); (try (have i_xlp235_2 := Imp.go xlp235_2 (by omega))); (try (have i_t8 := Imp.go t8 (by omega))); (try (have i_t8 := Imp.go t8 (by omega))); (try (have i_xlp235_2 := Imp.go xlp235_2 (by omega))); (try (have i_xlp235_3 := Imp.go xlp235_3 (by omega))); (try (have i_t365 := Imp.go t365 (by omega))); omega)) (Imp.mk (fun hp => have hp : (V391 0 8).toInt = 0 := hp; (show (gn : Int) - (V391 0 7).toInt < (g234 - 1) from by first | omega | ((try (have i_t365 := Imp.go t365 (by omega))); (try (have i_xlp235_3 := Imp.go xlp235_3 (by omega))); (try (have i_xlp235_2 := Imp.go xlp235_2 (by omega))); (try (have i_t8 := Imp.go t8 (by omega))); (try (have i_t8 := Imp.go t8 (by omega))); (try (have i_xlp235_2 := Imp.go xlp235_2 (by omega))); (try (have i_xlp235_3 := Imp.go xlp235_3 (by omega))); (try (have i_t365 := Imp.go t365 (by omega))); omega)))) (Imp.mk (fun hp => have hp : (V391 0 8).toInt = 0 := hp; (show (V391 0 48).toInt - (V 0 48).toInt ≤ 2 * ((V391 0 7).toInt - (V 0 7).toInt) from by first | omega | ((try (have i_t365 := Imp.go t365 (by omega))); (try (have i_xlp235_3 := Imp.go xlp235_3 (by omega))); (try (have i_xlp235_2 := Imp.go xlp235_2 (by omega))); (try (have i_t8 := Imp.go t8 (by omega))); (try (have i_t8 := Imp.go t8 (by omega))); (try (have i_xlp235_2 := Imp.go xlp235_2 (by omega))); (try (have i_xlp235_3 := Imp.go xlp235_3 (by omega))); (try (have i_t365 := Imp.go t365 (by omega))); omega)))) (show (V391 0 48).toInt ≤ 8050 - 6 * (V 0 50).toInt from by first | omega | ((try (have i_t365 := Imp.go t365 (by omega))); (try (have i_xlp235_3 := Imp.go xlp235_3 (by omega))); (try (have i_xlp235_2 := Imp.go xlp235_2 (by omega))); (try (have i_t8 := Imp.go t8 (by omega))); (try (have i_t8 := Imp.go t8 (by omega))); (try (have i_xlp235_2 := Imp.go xlp235_2 (by omega))); (try (have i_xlp235_3 := Imp.go xlp235_3 (by omega))); (try (have i_t365 := Imp.go t365 (by omega))); omega)) (show (V391 0 50).toInt = (V 0 50).toInt from by first | omega | ((try (have i_t365 := Imp.go t365 (by omega))); (try (have i_xlp235_3 := Imp.go xlp235_3 (by omega))); (try (have i_xlp235_2 := Imp.go xlp235_2 (by omega))); (try (have i_t8 := Imp.go t8 (by omega))); (try (have i_t8 := Imp.go t8 (by omega))); (try (have i_xlp235_2 := Imp.go xlp235_2 (by omega))); (try (have i_xlp235_3 := Imp.go xlp235_3 (by omega))); (try (have i_t365 := Imp.go t365 (by omega))); omega)) (show (V 0 48).toInt ≤ (V391 0 48).toInt from by first | omega | ((try (have i_t365 := Imp.go t365 (by omega))); (try (have i_xlp235_3 := Imp.go xlp235_3 (by omega))); (try (have i_xlp235_2 := Imp.go xlp235_2 (by omega))); (try (have i_t8 := Imp.go t8 (by omega))); (try (have i_t8 := Imp.go t8 (by omega))); (try (have i_xlp235_2 := Imp.go xlp235_2 (by omega))); (try (have i_xlp235_3 := Imp.go xlp235_3 (by omega))); (try (have i_t365 := Imp.go t365 (by omega))); omega)) (by first | omega | ((try (have i_t365 := Imp.go t365 (by omega))); (try (have i_xlp235_3 := Imp.go xlp235_3 (by omega))); (try (have i_xlp235_2 := Imp.go xlp235_2 (by omega))); (try (have i_t8 := Imp.go t8 (by omega))); (try (have i_t8 := Imp.go t8 (by omega))); (try (have i_xlp235_2 := Imp.go xlp235_2 (by omega))); (try (have i_xlp235_3 := Imp.go xlp235_3 (by omega))); (try (have i_t365 := Imp.go t365 (by omega))); omega)) alL371 (agr.tr (agr.tr (agr.up (agr.tr agr.rf ajV232 (by decide) (by decide)) hV353 rfl) ajV370 (by decide) (by decide)) ajV391 (by decide) (by decide)) hMV391 hP hD hS (lv_sub hl [2] rfl)
                      · skip
                        have hb400 : ∀ k, Rc gT (Crun gs (Isum gd :: k)) (Cbad (V370 0 8).toInt) := fun k => (hr354 k).tr (h377 (IsumR gd :: k))
                        refine lv_aload_n hx hb dX12_sum_53 rfl (lv_at hl 1 rfl) ?_
                        refine lv_iload_n hx hb dX12_sum_54 rfl (lv_at hl 0 rfl) ?_
                        refine lv_iconst (v := 0) hx hb dX12_sum_55 (by decide) ?_
                        refine lv_iconst (v := 0) hx hb dX12_sum_56 (by decide) ?_
                        have r401 : Int32.toInt 7 = 7 := by decide
                        have r402 : Int32.toInt 0 = 0 := by decide
                        refine gA_int (gA_runV (As := [.int 7, .int 0, .int 0]) (rest := []) (ci := 12) (q0 := 0) hx hb hml hown hg hP hD hK hS hA hnw hgk (s_emit3 l D ks H.size ad kk V370 L371 7 0 0 hMV370 (show (V370 0 48).toInt ≤ 9999 from by first | omega | ((try (have i_t365 := Imp.go t365 (by omega))); (try (have i_xlp235_3 := Imp.go xlp235_3 (by omega))); (try (have i_xlp235_2 := Imp.go xlp235_2 (by omega))); (try (have i_t8 := Imp.go t8 (by omega))); (try (have i_t8 := Imp.go t8 (by omega))); (try (have i_xlp235_2 := Imp.go xlp235_2 (by omega))); (try (have i_xlp235_3 := Imp.go xlp235_3 (by omega))); (try (have i_t365 := Imp.go t365 (by omega))); omega))) w2136 w2138 w111 w172 w2139 rfl rfl hdV_yX12_emit ⟨(by show 0 + 1 ≤ 10 * dd + 12; omega), (by show 8 + (4 + 11) + (0) ≤ 300 * dd + 380; omega)⟩ rfl hl.1 rfl (Nat.le_of_ble_eq_true rfl) dX12_sum_57 ⟨Nat.le_of_ble_eq_true rfl, Nat.le_of_ble_eq_true rfl⟩) hP hD hK hS hA (fun z403 u404 H locs w405 hP hD hK hS => ?_)
                        obtain ⟨V409, L410⟩ := u404
                        obtain ⟨hMV409, ajV409, axL410, rgz403, t406, t407, t408⟩ := w405
                        have axL410 : L371 = L410 := Eq.symm axL410
                        subst axL410
                        have hP : va_P D vwCl (mw ad kk ks.1 V409 L371) H := hP
                        have hD : va_D A (mw ad kk ks.1 V409 L371) := hD
                        have hMV409 : rgd bM V409 := hMV409
                        have ajV409 : agr [(0, 48)] [45, 46, 47] V370 V409 := ajV409
                        have agV409 : agr [(0, 7), (0, 8), (0, 48), (0, 50)] [35, 36, 37, 38, 45, 46, 47] V V409 := agV370.tr ajV409 (by decide) (by decide)
                        have rgz403 : 0 ≤ z403.toInt ∧ z403.toInt ≤ 20000 := rgz403
                        have t406 : (V409 0 48).toInt = (V370 0 48).toInt + 1 := t406
                        have t407 : z403.toInt = (V370 0 49).toInt + (V370 0 48).toInt := t407
                        have t408 : emitted V370 V409 (pA V370) 7 0 0 := t408
                        have r411 : 0 ≤ ((V409 0 48)).toInt ∧ ((V409 0 48)).toInt ≤ 10000 := hMV409 0 48
                        have pq412 : (V370 0 49).toInt = ((V 0 49)).toInt := congrArg Int32.toInt ((ajV370 0 49 rfl).trans ((up2_k hV353 (by decide)).trans ((ajV232 0 49 rfl).trans (ajV13 0 49 rfl))))
                        have r413 : 0 ≤ ((V 0 49)).toInt ∧ ((V 0 49)).toInt ≤ 10000 := hMV 0 49
                        refine lv_istore_n (lv' := [(2, .int z403), (1, .int 7), (0, .ref (ad 0))]) hx hb dX12_sum_60 rfl hl (by decide) rfl (fun ls hl => ?_)
                        refine lv_goto (tgt := 4) hx hb dX12_sum_61 (by decide) ?_
                        have pq414 : (V409 0 7).toInt = ((V370 0 7)).toInt := congrArg Int32.toInt (ajV409 0 7 rfl)
                        have pq415 : (V409 0 8).toInt = ((V370 0 8)).toInt := congrArg Int32.toInt (ajV409 0 8 rfl)
                        have pq416 : (V409 0 50).toInt = ((V370 0 50)).toInt := congrArg Int32.toInt (ajV409 0 50 rfl)
                        exact ihlp235 (g234 - 1) V409 L371 H locs ls (Or.inr ⟨(show 1 ≤ (V409 0 8).toInt from by omega), (fun k => by rw [show (V409 0 8).toInt = (V370 0 8).toInt from by omega]; exact hb400 k)⟩) (show 0 ≤ (g234 - 1) from by first | omega | ((try (have i_t365 := Imp.go t365 (by omega))); (try (have i_xlp235_3 := Imp.go xlp235_3 (by omega))); (try (have i_xlp235_2 := Imp.go xlp235_2 (by omega))); (try (have i_t8 := Imp.go t8 (by omega))); (try (have i_t8 := Imp.go t8 (by omega))); (try (have i_xlp235_2 := Imp.go xlp235_2 (by omega))); (try (have i_xlp235_3 := Imp.go xlp235_3 (by omega))); (try (have i_t365 := Imp.go t365 (by omega))); omega)) (Imp.mk (fun hp => have hp : (V409 0 8).toInt = 0 := hp; (show (gn : Int) - (V409 0 7).toInt < (g234 - 1) from by first | omega | ((try (have i_t365 := Imp.go t365 (by omega))); (try (have i_xlp235_3 := Imp.go xlp235_3 (by omega))); (try (have i_xlp235_2 := Imp.go xlp235_2 (by omega))); (try (have i_t8 := Imp.go t8 (by omega))); (try (have i_t8 := Imp.go t8 (by omega))); (try (have i_xlp235_2 := Imp.go xlp235_2 (by omega))); (try (have i_xlp235_3 := Imp.go xlp235_3 (by omega))); (try (have i_t365 := Imp.go t365 (by omega))); omega)))) (Imp.mk (fun hp => have hp : (V409 0 8).toInt = 0 := hp; (show (V409 0 48).toInt - (V 0 48).toInt ≤ 2 * ((V409 0 7).toInt - (V 0 7).toInt) from by first | omega | ((try (have i_t365 := Imp.go t365 (by omega))); (try (have i_xlp235_3 := Imp.go xlp235_3 (by omega))); (try (have i_xlp235_2 := Imp.go xlp235_2 (by omega))); (try (have i_t8 := Imp.go t8 (by omega))); (try (have i_t8 := Imp.go t8 (by omega))); (try (have i_xlp235_2 := Imp.go xlp235_2 (by omega))); (try (have i_xlp235_3 := Imp.go xlp235_3 (by omega))); (try (have i_t365 := Imp.go t365 (by omega))); omega)))) (show (V409 0 48).toInt ≤ 8050 - 6 * (V 0 50).toInt from by first | omega | ((try (have i_t365 := Imp.go t365 (by omega))); (try (have i_xlp235_3 := Imp.go xlp235_3 (by omega))); (try (have i_xlp235_2 := Imp.go xlp235_2 (by omega))); (try (have i_t8 := Imp.go t8 (by omega))); (try (have i_t8 := Imp.go t8 (by omega))); (try (have i_xlp235_2 := Imp.go xlp235_2 (by omega))); (try (have i_xlp235_3 := Imp.go xlp235_3 (by omega))); (try (have i_t365 := Imp.go t365 (by omega))); omega)) (show (V409 0 50).toInt = (V 0 50).toInt from by first | omega | ((try (have i_t365 := Imp.go t365 (by omega))); (try (have i_xlp235_3 := Imp.go xlp235_3 (by omega))); (try (have i_xlp235_2 := Imp.go xlp235_2 (by omega))); (try (have i_t8 := Imp.go t8 (by omega))); (try (have i_t8 := Imp.go t8 (by omega))); (try (have i_xlp235_2 := Imp.go xlp235_2 (by omega))); (try (have i_xlp235_3 := Imp.go xlp235_3 (by omega))); (try (have i_t365 := Imp.go t365 (by omega))); omega)) (show (V 0 48).toInt ≤ (V409 0 48).toInt from by first | omega | ((try (have i_t365 := Imp.go t365 (by omega))); (try (have i_xlp235_3 := Imp.go xlp235_3 (by omega))); (try (have i_xlp235_2 := Imp.go xlp235_2 (by omega))); (try (have i_t8 := Imp.go t8 (by omega))); (try (have i_t8 := Imp.go t8 (by omega))); (try (have i_xlp235_2 := Imp.go xlp235_2 (by omega))); (try (have i_xlp235_3 := Imp.go xlp235_3 (by omega))); (try (have i_t365 := Imp.go t365 (by omega))); omega)) (by first | omega | ((try (have i_t365 := Imp.go t365 (by omega))); (try (have i_xlp235_3 := Imp.go xlp235_3 (by omega))); (try (have i_xlp235_2 := Imp.go xlp235_2 (by omega))); (try (have i_t8 := Imp.go t8 (by omega))); (try (have i_t8 := Imp.go t8 (by omega))); (try (have i_xlp235_2 := Imp.go xlp235_2 (by omega))); (try (have i_xlp235_3 := Imp.go xlp235_3 (by omega))); (try (have i_t365 := Imp.go t365 (by omega))); omega)) alL371 (agr.tr (agr.tr (agr.up (agr.tr agr.rf ajV232 (by decide) (by decide)) hV353 rfl) ajV370 (by decide) (by decide)) ajV409 (by decide) (by decide)) hMV409 hP hD hS (lv_sub hl [2] rfl)
                    · skip
                      have f417 : z342.toInt ≠ 0 := b_neq rfl (by decide) c350
                      exfalso; first | omega | ((try (have i_xlp235_3 := Imp.go xlp235_3 (by omega))); (try (have i_xlp235_2 := Imp.go xlp235_2 (by omega))); (try (have i_t8 := Imp.go t8 (by omega))); (try (have i_t8 := Imp.go t8 (by omega))); (try (have i_xlp235_2 := Imp.go xlp235_2 (by omega))); (try (have i_xlp235_3 := Imp.go xlp235_3 (by omega))); omega)
              · skip
                have kd418 : gT.1 (s1.1 0) ≠ 45 := fun h9 => h337 (h9.trans (by decide))
                refine lv_if_eq (tgt := 64) hx hb dX12_sum_19 (by decide) (fun c419 => ?_) (fun c419 => ?_)
                · skip
                  have f420 : z332.toInt = 0 := b_eq rfl (by decide) c419
                  have hr421 : ∀ k, Rc gT (Crun gs (Isum gd :: k)) (Crun s1 (k)) := fun k => Rc.go1 (hq k) (sumR_n gd kd327 kd418)
                  exact W.vret hx hb hr (fun t ht hW => ⟨⟨(V232, L233), rfl, ⟨hMV232, agV232, alL233, (Imp.mk (fun hp => have hp : (V232 0 8).toInt = 0 := hp; (show (V232 0 48).toInt - (V 0 48).toInt ≤ 2 * ((V232 0 7).toInt - (V 0 7).toInt) from by first | omega | ((try (have i_xlp235_3 := Imp.go xlp235_3 (by omega))); (try (have i_xlp235_2 := Imp.go xlp235_2 (by omega))); (try (have i_t8 := Imp.go t8 (by omega))); (try (have i_t8 := Imp.go t8 (by omega))); (try (have i_xlp235_2 := Imp.go xlp235_2 (by omega))); (try (have i_xlp235_3 := Imp.go xlp235_3 (by omega))); omega)))), (show (V232 0 48).toInt ≤ 8050 - 6 * (V 0 50).toInt from by first | omega | ((try (have i_xlp235_3 := Imp.go xlp235_3 (by omega))); (try (have i_xlp235_2 := Imp.go xlp235_2 (by omega))); (try (have i_t8 := Imp.go t8 (by omega))); (try (have i_t8 := Imp.go t8 (by omega))); (try (have i_xlp235_2 := Imp.go xlp235_2 (by omega))); (try (have i_xlp235_3 := Imp.go xlp235_3 (by omega))); omega)), (show (V232 0 50).toInt = (V 0 50).toInt from by first | omega | ((try (have i_xlp235_3 := Imp.go xlp235_3 (by omega))); (try (have i_xlp235_2 := Imp.go xlp235_2 (by omega))); (try (have i_t8 := Imp.go t8 (by omega))); (try (have i_t8 := Imp.go t8 (by omega))); (try (have i_xlp235_2 := Imp.go xlp235_2 (by omega))); (try (have i_xlp235_3 := Imp.go xlp235_3 (by omega))); omega)), (show (V 0 48).toInt ≤ (V232 0 48).toInt from by first | omega | ((try (have i_xlp235_3 := Imp.go xlp235_3 (by omega))); (try (have i_xlp235_2 := Imp.go xlp235_2 (by omega))); (try (have i_t8 := Imp.go t8 (by omega))); (try (have i_t8 := Imp.go t8 (by omega))); (try (have i_xlp235_2 := Imp.go xlp235_2 (by omega))); (try (have i_xlp235_3 := Imp.go xlp235_3 (by omega))); omega)), (Or.inl ⟨W0 rq, s1, hr421, rq, keepS.le (keepS.tr (keepS.rf : keepS gs 0 gs) kq) (by decide)⟩)⟩, by rw [ht]; exact hP, va_K.moved hW.alike hK, hD⟩, hS.F ht⟩) hS.2.2 dX12_sum_64
                · skip
                  have f422 : z332.toInt ≠ 0 := b_neq rfl (by decide) c419
                  exfalso; first | omega | ((try (have i_xlp235_3 := Imp.go xlp235_3 (by omega))); (try (have i_xlp235_2 := Imp.go xlp235_2 (by omega))); (try (have i_t8 := Imp.go t8 (by omega))); (try (have i_t8 := Imp.go t8 (by omega))); (try (have i_xlp235_2 := Imp.go xlp235_2 (by omega))); (try (have i_xlp235_3 := Imp.go xlp235_3 (by omega))); omega)
        · skip
          refine lv_bipush (v := 43) hx hb dX12_sum_5 (by decide) ?_
          have r423 : Int32.toInt 43 = 43 := by decide
          refine gA_int (gA_runV (As := [.int 43]) (rest := []) (ci := 12) (q0 := 0) hx hb hml hown hg hP hD hK hS hA hnw hgk (s_isSignB l D ks H.size ad kk V232 L233 43 hMV232 (show 1 ≤ (V232 0 8).toInt from by first | omega | ((try (have i_xlp235_3 := Imp.go xlp235_3 (by omega))); (try (have i_xlp235_2 := Imp.go xlp235_2 (by omega))); (try (have i_t8 := Imp.go t8 (by omega))); (try (have i_t8 := Imp.go t8 (by omega))); (try (have i_xlp235_2 := Imp.go xlp235_2 (by omega))); (try (have i_xlp235_3 := Imp.go xlp235_3 (by omega))); omega))) w2071 w2073 w95 w172 w2074 rfl rfl hdV_yX12_isSign ⟨(by show 0 + 1 ≤ 10 * dd + 12; omega), (by show 8 + (2 + 11) + (0) ≤ 300 * dd + 380; omega)⟩ rfl hl.1 rfl (Nat.le_of_ble_eq_true rfl) dX12_sum_7 ⟨Nat.le_of_ble_eq_true rfl, Nat.le_of_ble_eq_true rfl⟩) hP hD hK hS hA (fun z424 u425 H locs w426 hP hD hK hS => ?_)
          have rgz424 := w426
          have rgz424 : 0 ≤ z424.toInt ∧ z424.toInt ≤ 0 := rgz424
          refine lv_if_ne (tgt := 22) hx hb dX12_sum_10 (by decide) (fun c427 => ?_) (fun c427 => ?_)
          · skip
            have f428 : z424.toInt ≠ 0 := b_neq rfl (by decide) c427
            exfalso; first | omega | ((try (have i_xlp235_3 := Imp.go xlp235_3 (by omega))); (try (have i_xlp235_2 := Imp.go xlp235_2 (by omega))); (try (have i_t8 := Imp.go t8 (by omega))); (try (have i_t8 := Imp.go t8 (by omega))); (try (have i_xlp235_2 := Imp.go xlp235_2 (by omega))); (try (have i_xlp235_3 := Imp.go xlp235_3 (by omega))); omega)
          · skip
            have f429 : z424.toInt = 0 := b_eq rfl (by decide) c427
            refine lv_aload_n hx hb dX12_sum_13 rfl (lv_at hl 0 rfl) ?_
            refine lv_bipush (v := 45) hx hb dX12_sum_14 (by decide) ?_
            have r430 : Int32.toInt 45 = 45 := by decide
            refine gA_int (gA_runV (As := [.int 45]) (rest := []) (ci := 12) (q0 := 0) hx hb hml hown hg hP hD hK hS hA hnw hgk (s_isSignB l D ks H.size ad kk V232 L233 45 hMV232 (show 1 ≤ (V232 0 8).toInt from by first | omega | ((try (have i_xlp235_3 := Imp.go xlp235_3 (by omega))); (try (have i_xlp235_2 := Imp.go xlp235_2 (by omega))); (try (have i_t8 := Imp.go t8 (by omega))); (try (have i_t8 := Imp.go t8 (by omega))); (try (have i_xlp235_2 := Imp.go xlp235_2 (by omega))); (try (have i_xlp235_3 := Imp.go xlp235_3 (by omega))); omega))) w2071 w2073 w95 w172 w2074 rfl rfl hdV_yX12_isSign ⟨(by show 0 + 1 ≤ 10 * dd + 12; omega), (by show 8 + (2 + 11) + (0) ≤ 300 * dd + 380; omega)⟩ rfl hl.1 rfl (Nat.le_of_ble_eq_true rfl) dX12_sum_16 ⟨Nat.le_of_ble_eq_true rfl, Nat.le_of_ble_eq_true rfl⟩) hP hD hK hS hA (fun z431 u432 H locs w433 hP hD hK hS => ?_)
            have rgz431 := w433
            have rgz431 : 0 ≤ z431.toInt ∧ z431.toInt ≤ 0 := rgz431
            refine lv_if_eq (tgt := 64) hx hb dX12_sum_19 (by decide) (fun c434 => ?_) (fun c434 => ?_)
            · skip
              have f435 : z431.toInt = 0 := b_eq rfl (by decide) c434
              exact W.vret hx hb hr (fun t ht hW => ⟨⟨(V232, L233), rfl, ⟨hMV232, agV232, alL233, (Imp.mk (fun hp => have hp : (V232 0 8).toInt = 0 := hp; (show (V232 0 48).toInt - (V 0 48).toInt ≤ 2 * ((V232 0 7).toInt - (V 0 7).toInt) from by first | omega | ((try (have i_xlp235_3 := Imp.go xlp235_3 (by omega))); (try (have i_xlp235_2 := Imp.go xlp235_2 (by omega))); (try (have i_t8 := Imp.go t8 (by omega))); (try (have i_t8 := Imp.go t8 (by omega))); (try (have i_xlp235_2 := Imp.go xlp235_2 (by omega))); (try (have i_xlp235_3 := Imp.go xlp235_3 (by omega))); omega)))), (show (V232 0 48).toInt ≤ 8050 - 6 * (V 0 50).toInt from by first | omega | ((try (have i_xlp235_3 := Imp.go xlp235_3 (by omega))); (try (have i_xlp235_2 := Imp.go xlp235_2 (by omega))); (try (have i_t8 := Imp.go t8 (by omega))); (try (have i_t8 := Imp.go t8 (by omega))); (try (have i_xlp235_2 := Imp.go xlp235_2 (by omega))); (try (have i_xlp235_3 := Imp.go xlp235_3 (by omega))); omega)), (show (V232 0 50).toInt = (V 0 50).toInt from by first | omega | ((try (have i_xlp235_3 := Imp.go xlp235_3 (by omega))); (try (have i_xlp235_2 := Imp.go xlp235_2 (by omega))); (try (have i_t8 := Imp.go t8 (by omega))); (try (have i_t8 := Imp.go t8 (by omega))); (try (have i_xlp235_2 := Imp.go xlp235_2 (by omega))); (try (have i_xlp235_3 := Imp.go xlp235_3 (by omega))); omega)), (show (V 0 48).toInt ≤ (V232 0 48).toInt from by first | omega | ((try (have i_xlp235_3 := Imp.go xlp235_3 (by omega))); (try (have i_xlp235_2 := Imp.go xlp235_2 (by omega))); (try (have i_t8 := Imp.go t8 (by omega))); (try (have i_t8 := Imp.go t8 (by omega))); (try (have i_xlp235_2 := Imp.go xlp235_2 (by omega))); (try (have i_xlp235_3 := Imp.go xlp235_3 (by omega))); omega)), (Or.inr ⟨(show 1 ≤ (V232 0 8).toInt from by omega), hq⟩)⟩, by rw [ht]; exact hP, va_K.moved hW.alike hK, hD⟩, hS.F ht⟩) hS.2.2 dX12_sum_64
            · skip
              have f436 : z431.toInt ≠ 0 := b_neq rfl (by decide) c434
              exfalso; first | omega | ((try (have i_xlp235_3 := Imp.go xlp235_3 (by omega))); (try (have i_xlp235_2 := Imp.go xlp235_2 (by omega))); (try (have i_t8 := Imp.go t8 (by omega))); (try (have i_t8 := Imp.go t8 (by omega))); (try (have i_xlp235_2 := Imp.go xlp235_2 (by omega))); (try (have i_xlp235_3 := Imp.go xlp235_3 (by omega))); omega)
    exact lp235 ((((gn : Int) + 1) + 1 : Int).toNat) ((gn : Int) + 1) V13 L14 H locs ls (Or.inr ⟨(show 1 ≤ (V13 0 8).toInt from by omega), hb231⟩) (show 0 ≤ ((gn : Int) + 1) from by first | omega | ((try (have i_t8 := Imp.go t8 (by omega))); omega)) (Imp.mk (fun hp => have hp : (V13 0 8).toInt = 0 := hp; (show (gn : Int) - (V13 0 7).toInt < ((gn : Int) + 1) from by first | omega | ((try (have i_t8 := Imp.go t8 (by omega))); omega)))) (Imp.mk (fun hp => have hp : (V13 0 8).toInt = 0 := hp; (show (V13 0 48).toInt - (V 0 48).toInt ≤ 2 * ((V13 0 7).toInt - (V 0 7).toInt) from by first | omega | ((try (have i_t8 := Imp.go t8 (by omega))); omega)))) (show (V13 0 48).toInt ≤ 8050 - 6 * (V 0 50).toInt from by first | omega | ((try (have i_t8 := Imp.go t8 (by omega))); omega)) (show (V13 0 50).toInt = (V 0 50).toInt from by first | omega | ((try (have i_t8 := Imp.go t8 (by omega))); omega)) (show (V 0 48).toInt ≤ (V13 0 48).toInt from by first | omega | ((try (have i_t8 := Imp.go t8 (by omega))); omega)) (by first | omega | ((try (have i_t8 := Imp.go t8 (by omega))); omega)) alL14 agr.rf hMV13 hP hD hS (lv_sub hl [0] rfl)
set_option maxHeartbeats 4000000 in
set_option maxRecDepth 100000 in
theorem s_productA {l : Launch} {D : va_G} {ks : KS} {dd : Nat} (hk_s_partA : K_s_partA l D ks dd) : K_s_productA l D ks dd := by
  intro sz ad kk V L  bq gn gT gs gl gd hMV rel c1 yd c4 em
  refine g_met (q_s_productA D ks ad kk V L  bq gn gT gs gl gd) (by decide) (Nat.le_of_ble_eq_true rfl) ?_
  intro p e s m below meth c A ls H locs hx hb hr hml hown hg hlocks hin hnw hgk hP hK hD hS hA hl
  have hown : s.vm.findClass RX12 = some m.cls := hown
  have hl : lv_has ls 2 [(0, .ref (ad 0))] := hl
  have hP : va_P D vwCl (mw ad kk ks.1 V L) H := hP
  have hD : va_D A (mw ad kk ks.1 V L) := hD
  have hK : va_K D vwCl (mty kk) s := hK
  have agV : agr [(0, 7), (0, 8), (0, 48), (0, 50)] [35, 36, 37, 38, 45, 46, 47] V V := agr.rf
  have alL : agL [35, 36, 37, 38, 45, 46, 47] L L := agL.rf
  have r1 : 0 ≤ ((V 0 48)).toInt ∧ ((V 0 48)).toInt ≤ 10000 := hMV 0 48
  have r2 : 0 ≤ ((V 0 50)).toInt ∧ ((V 0 50)).toInt ≤ 9 := hMV 0 50
  have rg0 := RelM.rg rel
  have cl0 := RelM.cl rel
  have cq0 := RelM.cq rel
  refine lv_aload_n hx hb dX12_product_0 rfl (lv_at hl 0 rfl) ?_
  have hr3 : ∀ k, Rc gT (Crun gs (Iprod gd :: k)) (Crun gs (Iprod gd :: k)) := fun k => Rc.rf
  have hr4 : ∀ k, Rc gT (Crun gs (Iprod gd :: k)) (Crun gs (Ipart gd :: IprodR gd :: k)) := fun k => Rc.go1 (hr3 k) (m_prod gd)
  refine gA_void (gA_runV (As := []) (rest := []) (ci := 12) (q0 := 0) hx hb hml hown hg hP hD hK hS hA hnw hgk (hk_s_partA H.size ad kk V L (bq) (gn) (gT) (gs) (gl) (gd) hMV rel (show (V 0 48).toInt ≤ 2 * (V 0 7).toInt from by omega) (show (V 0 50).toInt = ((gd) : Int) from by omega) (show (V 0 50).toInt + (dd : Int) = 8 from by omega) em) w2128 w2130 w109 w172 w2131 rfl rfl hdV_yX12_part ⟨(by show 10 * dd + 10 + 1 ≤ 10 * dd + 11; omega), (by show 8 + (2 + 11) + (300 * dd + 300) ≤ 300 * dd + 340; omega)⟩ rfl hl.1 rfl (Nat.le_of_ble_eq_true rfl) dX12_product_1 ⟨Nat.le_of_ble_eq_true rfl, Nat.le_of_ble_eq_true rfl⟩) hP hD hK hS hA (fun u6 H locs w7 hP hD hK hS => ?_)
  obtain ⟨V13, L14⟩ := u6
  obtain ⟨hMV13, ajV13, axL14, t8, t9, t10, t11, t12⟩ := w7
  have alL14 : agL [35, 36, 37, 38, 45, 46, 47] L L14 := agL.tr alL axL14 (by decide)
  have hP : va_P D vwCl (mw ad kk ks.1 V13 L14) H := hP
  have hD : va_D A (mw ad kk ks.1 V13 L14) := hD
  have hMV13 : rgd bM V13 := hMV13
  have ajV13 : agr [(0, 7), (0, 8), (0, 48), (0, 50)] [35, 36, 37, 38, 45, 46, 47] V V13 := ajV13
  have agV13 : agr [(0, 7), (0, 8), (0, 48), (0, 50)] [35, 36, 37, 38, 45, 46, 47] V V13 := agV.tr ajV13 (by decide) (by decide)
  have t8 : Imp ((V13 0 8).toInt = 0) ((V13 0 48).toInt - (V 0 48).toInt ≤ 2 * ((V13 0 7).toInt - (V 0 7).toInt)) := t8
  have t9 : (V13 0 48).toInt ≤ 8048 - 6 * (V 0 50).toInt := t9
  have t10 : (V13 0 50).toInt = (V 0 50).toInt := t10
  have t11 : (V 0 48).toInt ≤ (V13 0 48).toInt := t11
  have t12 : RdM (gT) (gs) (fun k => Ipart (gd) :: k) (fun k => k) (V13 0 8).toInt (fun s9 => RelM V13 L14 (bq) (gn) (gT) s9 (gl) ∧ keepS (gs) 1 s9) := t12
  have r15 : 0 ≤ ((V13 0 48)).toInt ∧ ((V13 0 48)).toInt ≤ 10000 := hMV13 0 48
  have r16 : 0 ≤ ((V13 0 8)).toInt ∧ ((V13 0 8)).toInt ≤ 70000 := hMV13 0 8
  have r17 : 0 ≤ ((V13 0 50)).toInt ∧ ((V13 0 50)).toInt ≤ 9 := hMV13 0 50
  rcases t12 with ⟨q18, sx19, h20, rl21, kp22⟩ | ⟨q18, h20⟩
  · skip
    have hr23 : ∀ k, Rc gT (Crun gs (Iprod gd :: k)) (Crun sx19 (IprodR gd :: k)) := fun k => (hr4 k).tr (h20 (IprodR gd :: k))
    have fz24 := RelM.rg rl21
    have ps25 := (kp22).1
    have lp29 : ∀ (fulp29 : Nat) (g28 : Int) (V26 : Vf) (L27 : Lf) (H : Heap) (locs : List Loc) (ls : Array Slot), (((V26 0 8).toInt = 0 ∧ ∃ s1 : St, (∀ k, Rc gT (Crun gs (Iprod gd :: k)) (Crun s1 (IprodR gd :: k))) ∧ RelM V26 L27 bq gn gT s1 gl ∧ keepS gs 1 s1) ∨ (1 ≤ (V26 0 8).toInt ∧ ∀ k, Rc gT (Crun gs (Iprod gd :: k)) (Cbad (V26 0 8).toInt))) → 0 ≤ g28 → Imp ((V26 0 8).toInt = 0) ((gn : Int) - (V26 0 7).toInt < g28) → Imp ((V26 0 8).toInt = 0) ((V26 0 48).toInt - (V 0 48).toInt ≤ 2 * ((V26 0 7).toInt - (V 0 7).toInt)) → (V26 0 48).toInt ≤ 8049 - 6 * (V 0 50).toInt → (V26 0 50).toInt = (V 0 50).toInt → (V 0 48).toInt ≤ (V26 0 48).toInt → g28 < (fulp29 : Int) → agL [35, 36, 37, 38, 45, 46, 47] L L27 → agr [(0, 7), (0, 8), (0, 48), (0, 50)] [35, 36, 37, 38, 45, 46, 47] V13 V26 → rgd bM V26 → va_P D vwCl (mw ad kk ks.1 V26 L27) H → va_D A (mw ad kk ks.1 V26 L27) → va_S A s.heap H locs → lv_has ls 2 [(0, .ref (ad 0))] → W p l e (rK 11 340 dd) s m ([.ref (ad 0)] : List Value).toArray below meth c H locs 0 0 (MQ below (q_s_productA D ks ad kk V L  bq gn gT gs gl gd A) ([.ref (ad 0)] : List Value).toArray s 0 0 A) (F0 m 4 ls []) := by
      intro fulp29
      induction fulp29 with
      | zero =>
        intro g28 V26 L27 H locs ls xlp29_0 xlp29_1 xlp29_2 xlp29_3 xlp29_4 xlp29_5 xlp29_6 hn alL27 ajV26 hMV26 hP hD hS hl
        exfalso; omega
      | succ fulp29 ihlp29 =>
        intro g28 V26 L27 H locs ls xlp29_0 xlp29_1 xlp29_2 xlp29_3 xlp29_4 xlp29_5 xlp29_6 hn alL27 ajV26 hMV26 hP hD hS hl
        have agV26 : agr [(0, 7), (0, 8), (0, 48), (0, 50)] [35, 36, 37, 38, 45, 46, 47] V V26 := agV13.tr ajV26 (by decide) (by decide)
        have r30 : 0 ≤ ((V26 0 8)).toInt ∧ ((V26 0 8)).toInt ≤ 70000 := hMV26 0 8
        have r31 : 0 ≤ ((V26 0 48)).toInt ∧ ((V26 0 48)).toInt ≤ 10000 := hMV26 0 48
        have r32 : 0 ≤ ((V26 0 50)).toInt ∧ ((V26 0 50)).toInt ≤ 9 := hMV26 0 50
        refine lv_aload_n hx hb dX12_product_4 rfl (lv_at hl 0 rfl) ?_
        rcases xlp29_0 with ⟨f8, s1, hq, rq, kq⟩ | ⟨f8, hq⟩
        · skip
          have fz33 := RelM.rg rq
          refine lv_bipush (v := 42) hx hb dX12_product_5 (by decide) ?_
          have r34 : Int32.toInt 42 = 42 := by decide
          refine gA_int (gA_runV (As := [.int 42]) (rest := []) (ci := 12) (q0 := 0) hx hb hml hown hg hP hD hK hS hA hnw hgk (s_hasSignA l D ks H.size ad kk V26 L27 42 (bq) (gn) (gT) (s1) (gl) hMV26 rq (sg_yes (j := 42) (by decide) (by decide) (by decide))) w2067 w2069 w94 w172 w2070 rfl rfl hdV_yX12_hasSign ⟨(by show 1 + 1 ≤ 10 * dd + 11; omega), (by show 8 + (3 + 11) + (21) ≤ 300 * dd + 340; omega)⟩ rfl hl.1 rfl (Nat.le_of_ble_eq_true rfl) dX12_product_7 ⟨Nat.le_of_ble_eq_true rfl, Nat.le_of_ble_eq_true rfl⟩) hP hD hK hS hA (fun z35 u36 H locs w37 hP hD hK hS => ?_)
          obtain ⟨V39, L40⟩ := u36
          obtain ⟨hMV39, ajV39, axL40, rgz35, t38⟩ := w37
          have axL40 : L27 = L40 := Eq.symm axL40
          subst axL40
          have hP : va_P D vwCl (mw ad kk ks.1 V39 L27) H := hP
          have hD : va_D A (mw ad kk ks.1 V39 L27) := hD
          have hMV39 : rgd bM V39 := hMV39
          have ajV39 : agr [(0, 7)] [] V26 V39 := ajV39
          have agV39 : agr [(0, 7), (0, 8), (0, 48), (0, 50)] [35, 36, 37, 38, 45, 46, 47] V V39 := agV26.tr ajV39 (by decide) (by decide)
          have rgz35 : 0 ≤ z35.toInt ∧ z35.toInt ≤ 1 := rgz35
          have t38 : (z35.toInt = 1 ∧ (gT).1 ((s1).1 0) = (Int32.toInt 42) ∧ RelM V39 L27 (bq) (gn) (gT) (nx (s1) 1) (gl)) ∨ (z35.toInt = 0 ∧ (gT).1 ((s1).1 0) ≠ (Int32.toInt 42) ∧ RelM V39 L27 (bq) (gn) (gT) (s1) (gl)) := t38
          rcases t38 with ⟨q41, h42, rl43⟩ | ⟨q41, h42, rl43⟩
          · skip
            have kd44 : gT.1 (s1.1 0) = 42 := h42.trans (by decide)
            have hr45 : ∀ k, Rc gT (Crun gs (Iprod gd :: k)) (Crun (nx s1 1) (Ipart gd :: IprodR gd :: k)) := fun k => Rc.go1 (hq k) (prodR_y gd kd44)
            have ps46 : (nx s1 1).1 0 = s1.1 0 + 1 := rfl
            have fz47 := RelM.rg rl43
            have pq48 : (V39 0 8).toInt = ((V26 0 8)).toInt := congrArg Int32.toInt (ajV39 0 8 rfl)
            refine lv_if_eq (tgt := 28) hx hb dX12_product_10 (by decide) (fun c49 => ?_) (fun c49 => ?_)
            · skip
              have f50 : z35.toInt = 0 := b_eq rfl (by decide) c49
              exfalso; first | omega | ((try (have i_xlp29_3 := Imp.go xlp29_3 (by omega))); (try (have i_xlp29_2 := Imp.go xlp29_2 (by omega))); (try (have i_t8 := Imp.go t8 (by omega))); (try (have i_t8 := Imp.go t8 (by omega))); (try (have i_xlp29_2 := Imp.go xlp29_2 (by omega))); (try (have i_xlp29_3 := Imp.go xlp29_3 (by omega))); omega)
            · skip
              have f51 : z35.toInt ≠ 0 := b_neq rfl (by decide) c49
              refine lv_aload_n hx hb dX12_product_13 rfl (lv_at hl 0 rfl) ?_
              have pq52 : (V39 0 48).toInt = ((V26 0 48)).toInt := congrArg Int32.toInt (ajV39 0 48 rfl)
              have pq53 : (V39 0 50).toInt = ((V26 0 50)).toInt := congrArg Int32.toInt (ajV39 0 50 rfl)
              refine gA_void (gA_runV (As := []) (rest := []) (ci := 12) (q0 := 0) hx hb hml hown hg hP hD hK hS hA hnw hgk (hk_s_partA H.size ad kk V39 L27 (bq) (gn) (gT) ((nx s1 1)) (gl) (gd) hMV39 rl43 (show (V39 0 48).toInt ≤ 2 * (V39 0 7).toInt from by first | omega | ((try (have i_xlp29_3 := Imp.go xlp29_3 (by omega))); (try (have i_xlp29_2 := Imp.go xlp29_2 (by omega))); (try (have i_t8 := Imp.go t8 (by omega))); (try (have i_t8 := Imp.go t8 (by omega))); (try (have i_xlp29_2 := Imp.go xlp29_2 (by omega))); (try (have i_xlp29_3 := Imp.go xlp29_3 (by omega))); omega)) (show (V39 0 50).toInt = ((gd) : Int) from by first | omega | ((try (have i_xlp29_3 := Imp.go xlp29_3 (by omega))); (try (have i_xlp29_2 := Imp.go xlp29_2 (by omega))); (try (have i_t8 := Imp.go t8 (by omega))); (try (have i_t8 := Imp.go t8 (by omega))); (try (have i_xlp29_2 := Imp.go xlp29_2 (by omega))); (try (have i_xlp29_3 := Imp.go xlp29_3 (by omega))); omega)) (show (V39 0 50).toInt + (dd : Int) = 8 from by first | omega | ((try (have i_xlp29_3 := Imp.go xlp29_3 (by omega))); (try (have i_xlp29_2 := Imp.go xlp29_2 (by omega))); (try (have i_t8 := Imp.go t8 (by omega))); (try (have i_t8 := Imp.go t8 (by omega))); (try (have i_xlp29_2 := Imp.go xlp29_2 (by omega))); (try (have i_xlp29_3 := Imp.go xlp29_3 (by omega))); omega)) (EM.mv em ((ajV39 0 51 rfl).trans ((ajV26 0 51 rfl).trans (ajV13 0 51 rfl))) ((ajV39 0 52 rfl).trans ((ajV26 0 52 rfl).trans (ajV13 0 52 rfl))) (by rw [(funext (fun q => ajV39 27 q rfl) : V39 27 = V26 27), (funext (fun q => ajV26 27 q rfl) : V26 27 = V13 27), (funext (fun q => ajV13 27 q rfl) : V13 27 = V 27)] : V39 27 = V 27) ((keepS.tr (keepS.tr (keepS.rf : keepS gs 0 gs) kq) (keepS.n1 1))).2.1)) w2128 w2130 w109 w172 w2131 rfl rfl hdV_yX12_part ⟨(by show 10 * dd + 10 + 1 ≤ 10 * dd + 11; omega), (by show 8 + (2 + 11) + (300 * dd + 300) ≤ 300 * dd + 340; omega)⟩ rfl hl.1 rfl (Nat.le_of_ble_eq_true rfl) dX12_product_14 ⟨Nat.le_of_ble_eq_true rfl, Nat.le_of_ble_eq_true rfl⟩) hP hD hK hS hA (fun u55 H locs w56 hP hD hK hS => ?_)
              obtain ⟨V62, L63⟩ := u55
              obtain ⟨hMV62, ajV62, axL63, t57, t58, t59, t60, t61⟩ := w56
              have alL63 : agL [35, 36, 37, 38, 45, 46, 47] L L63 := agL.tr alL27 axL63 (by decide)
              have hP : va_P D vwCl (mw ad kk ks.1 V62 L63) H := hP
              have hD : va_D A (mw ad kk ks.1 V62 L63) := hD
              have hMV62 : rgd bM V62 := hMV62
              have ajV62 : agr [(0, 7), (0, 8), (0, 48), (0, 50)] [35, 36, 37, 38, 45, 46, 47] V39 V62 := ajV62
              have agV62 : agr [(0, 7), (0, 8), (0, 48), (0, 50)] [35, 36, 37, 38, 45, 46, 47] V V62 := agV39.tr ajV62 (by decide) (by decide)
              have t57 : Imp ((V62 0 8).toInt = 0) ((V62 0 48).toInt - (V39 0 48).toInt ≤ 2 * ((V62 0 7).toInt - (V39 0 7).toInt)) := t57
              have t58 : (V62 0 48).toInt ≤ 8048 - 6 * (V39 0 50).toInt := t58
              have t59 : (V62 0 50).toInt = (V39 0 50).toInt := t59
              have t60 : (V39 0 48).toInt ≤ (V62 0 48).toInt := t60
              have t61 : RdM (gT) ((nx s1 1)) (fun k => Ipart (gd) :: k) (fun k => k) (V62 0 8).toInt (fun s9 => RelM V62 L63 (bq) (gn) (gT) s9 (gl) ∧ keepS ((nx s1 1)) 1 s9) := t61
              have r64 : 0 ≤ ((V62 0 48)).toInt ∧ ((V62 0 48)).toInt ≤ 10000 := hMV62 0 48
              have r65 : 0 ≤ ((V62 0 8)).toInt ∧ ((V62 0 8)).toInt ≤ 70000 := hMV62 0 8
              have r66 : 0 ≤ ((V62 0 50)).toInt ∧ ((V62 0 50)).toInt ≤ 9 := hMV62 0 50
              rcases t61 with ⟨q67, sx68, h69, rl70, kp71⟩ | ⟨q67, h69⟩
              · skip
                have hr72 : ∀ k, Rc gT (Crun gs (Iprod gd :: k)) (Crun sx68 (IprodR gd :: k)) := fun k => (hr45 k).tr (h69 (IprodR gd :: k))
                have fz73 := RelM.rg rl70
                have ps74 := (kp71).1
                refine lv_aload_n hx hb dX12_product_17 rfl (lv_at hl 0 rfl) ?_
                refine lv_iconst (v := 5) hx hb dX12_product_18 (by decide) ?_
                refine lv_iconst (v := 0) hx hb dX12_product_19 (by decide) ?_
                refine lv_iconst (v := 0) hx hb dX12_product_20 (by decide) ?_
                have r75 : Int32.toInt 5 = 5 := by decide
                have r76 : Int32.toInt 0 = 0 := by decide
                refine gA_int (gA_runV (As := [.int 5, .int 0, .int 0]) (rest := []) (ci := 12) (q0 := 0) hx hb hml hown hg hP hD hK hS hA hnw hgk (s_emit3 l D ks H.size ad kk V62 L63 5 0 0 hMV62 (show (V62 0 48).toInt ≤ 9999 from by first | omega | ((try (have i_t57 := Imp.go t57 (by omega))); (try (have i_xlp29_3 := Imp.go xlp29_3 (by omega))); (try (have i_xlp29_2 := Imp.go xlp29_2 (by omega))); (try (have i_t8 := Imp.go t8 (by omega))); (try (have i_t8 := Imp.go t8 (by omega))); (try (have i_xlp29_2 := Imp.go xlp29_2 (by omega))); (try (have i_xlp29_3 := Imp.go xlp29_3 (by omega))); (try (have i_t57 := Imp.go t57 (by omega))); omega))) w2136 w2138 w111 w172 w2139 rfl rfl hdV_yX12_emit ⟨(by show 0 + 1 ≤ 10 * dd + 11; omega), (by show 8 + (4 + 11) + (0) ≤ 300 * dd + 340; omega)⟩ rfl hl.1 rfl (Nat.le_of_ble_eq_true rfl) dX12_product_21 ⟨Nat.le_of_ble_eq_true rfl, Nat.le_of_ble_eq_true rfl⟩) hP hD hK hS hA (fun z77 u78 H locs w79 hP hD hK hS => ?_)
                obtain ⟨V83, L84⟩ := u78
                obtain ⟨hMV83, ajV83, axL84, rgz77, t80, t81, t82⟩ := w79
                have axL84 : L63 = L84 := Eq.symm axL84
                subst axL84
                have hP : va_P D vwCl (mw ad kk ks.1 V83 L63) H := hP
                have hD : va_D A (mw ad kk ks.1 V83 L63) := hD
                have hMV83 : rgd bM V83 := hMV83
                have ajV83 : agr [(0, 48)] [45, 46, 47] V62 V83 := ajV83
                have agV83 : agr [(0, 7), (0, 8), (0, 48), (0, 50)] [35, 36, 37, 38, 45, 46, 47] V V83 := agV62.tr ajV83 (by decide) (by decide)
                have rgz77 : 0 ≤ z77.toInt ∧ z77.toInt ≤ 20000 := rgz77
                have t80 : (V83 0 48).toInt = (V62 0 48).toInt + 1 := t80
                have t81 : z77.toInt = (V62 0 49).toInt + (V62 0 48).toInt := t81
                have t82 : emitted V62 V83 (pA V62) 5 0 0 := t82
                have r85 : 0 ≤ ((V83 0 48)).toInt ∧ ((V83 0 48)).toInt ≤ 10000 := hMV83 0 48
                have pq86 : (V62 0 49).toInt = ((V 0 49)).toInt := congrArg Int32.toInt ((ajV62 0 49 rfl).trans ((ajV39 0 49 rfl).trans ((ajV26 0 49 rfl).trans (ajV13 0 49 rfl))))
                have r87 : 0 ≤ ((V 0 49)).toInt ∧ ((V 0 49)).toInt ≤ 10000 := hMV 0 49
                refine lv_istore_n (lv' := [(1, .int z77), (0, .ref (ad 0))]) hx hb dX12_product_24 rfl hl (by decide) rfl (fun ls hl => ?_)
                refine lv_goto (tgt := 4) hx hb dX12_product_25 (by decide) ?_
                have pq88 : (V83 0 7).toInt = ((V62 0 7)).toInt := congrArg Int32.toInt (ajV83 0 7 rfl)
                have pq89 : (V83 0 8).toInt = ((V62 0 8)).toInt := congrArg Int32.toInt (ajV83 0 8 rfl)
                have pq90 : (V83 0 50).toInt = ((V62 0 50)).toInt := congrArg Int32.toInt (ajV83 0 50 rfl)
                have rl91 : RelM V83 L63 bq gn gT sx68 gl := RelM.ag rl70 (show agr [(0, 48)] [45, 46, 47] V62 V83 from (agr.tr agr.rf ajV83 (by decide) (by decide))) (by decide) (show agL [] L63 L63 from agL.rf) (by decide)
                exact ihlp29 (g28 - 1) V83 L63 H locs ls (Or.inl ⟨W0 rl91, sx68, hr72, rl91, keepS.le (keepS.tr (keepS.tr (keepS.tr (keepS.rf : keepS gs 0 gs) kq) (keepS.n1 1)) kp71) (by decide)⟩) (show 0 ≤ (g28 - 1) from by first | omega | ((try (have i_t57 := Imp.go t57 (by omega))); (try (have i_xlp29_3 := Imp.go xlp29_3 (by omega))); (try (have i_xlp29_2 := Imp.go xlp29_2 (by omega))); (try (have i_t8 := Imp.go t8 (by omega))); (try (have i_t8 := Imp.go t8 (by omega))); (try (have i_xlp29_2 := Imp.go xlp29_2 (by omega))); (try (have i_xlp29_3 := Imp.go xlp29_3 (by omega))); (try (have i_t57 := Imp.go t57 (by omega))); omega)) (Imp.mk (fun hp => have hp : (V83 0 8).toInt = 0 := hp; (show (gn : Int) - (V83 0 7).toInt < (g28 - 1) from by first | omega | ((try (have i_t57 := Imp.go t57 (by omega))); (try (have i_xlp29_3 := Imp.go xlp29_3 (by omega))); (try (have i_xlp29_2 := Imp.go xlp29_2 (by omega))); (try (have i_t8 := Imp.go t8 (by omega))); (try (have i_t8 := Imp.go t8 (by omega))); (try (have i_xlp29_2 := Imp.go xlp29_2 (by omega))); (try (have i_xlp29_3 := Imp.go xlp29_3 (by omega))); (try (have i_t57 := Imp.go t57 (by omega))); omega)))) (Imp.mk (fun hp => have hp : (V83 0 8).toInt = 0 := hp; (show (V83 0 48).toInt - (V 0 48).toInt ≤ 2 * ((V83 0 7).toInt - (V 0 7).toInt) from by first | omega | ((try (have i_t57 := Imp.go t57 (by omega))); (try (have i_xlp29_3 := Imp.go xlp29_3 (by omega))); (try (have i_xlp29_2 := Imp.go xlp29_2 (by omega))); (try (have i_t8 := Imp.go t8 (by omega))); (try (have i_t8 := Imp.go t8 (by omega))); (try (have i_xlp29_2 := Imp.go xlp29_2 (by omega))); (try (have i_xlp29_3 := Imp.go xlp29_3 (by omega))); (try (have i_t57 := Imp.go t57 (by omega))); omega)))) (show (V83 0 48).toInt ≤ 8049 - 6 * (V 0 50).toInt from by first | omega | ((try (have i_t57 := Imp.go t57 (by omega))); (try (have i_xlp29_3 := Imp.go xlp29_3 (by omega))); (try (have i_xlp29_2 := Imp.go xlp29_2 (by omega))); (try (have i_t8 := Imp.go t8 (by omega))); (try (have i_t8 := Imp.go t8 (by omega))); (try (have i_xlp29_2 := Imp.go xlp29_2 (by omega))); (try (have i_xlp29_3 := Imp.go xlp29_3 (by omega))); (try (have i_t57 := Imp.go t57 (by omega))); omega)) (show (V83 0 50).toInt = (V 0 50).toInt from by first | omega | ((try (have i_t57 := Imp.go t57 (by omega))); (try (have i_xlp29_3 := Imp.go xlp29_3 (by omega))); (try (have i_xlp29_2 := Imp.go xlp29_2 (by omega))); (try (have i_t8 := Imp.go t8 (by omega))); (try (have i_t8 := Imp.go t8 (by omega))); (try (have i_xlp29_2 := Imp.go xlp29_2 (by omega))); (try (have i_xlp29_3 := Imp.go xlp29_3 (by omega))); (try (have i_t57 := Imp.go t57 (by omega))); omega)) (show (V 0 48).toInt ≤ (V83 0 48).toInt from by first | omega | ((try (have i_t57 := Imp.go t57 (by omega))); (try (have i_xlp29_3 := Imp.go xlp29_3 (by omega))); (try (have i_xlp29_2 := Imp.go xlp29_2 (by omega))); (try (have i_t8 := Imp.go t8 (by omega))); (try (have i_t8 := Imp.go t8 (by omega))); (try (have i_xlp29_2 := Imp.go xlp29_2 (by omega))); (try (have i_xlp29_3 := Imp.go xlp29_3 (by omega))); (try (have i_t57 := Imp.go t57 (by omega))); omega)) (by first | omega | ((try (have i_t57 := Imp.go t57 (by omega))); (try (have i_xlp29_3 := Imp.go xlp29_3 (by omega))); (try (have i_xlp29_2 := Imp.go xlp29_2 (by omega))); (try (have i_t8 := Imp.go t8 (by omega))); (try (have i_t8 := Imp.go t8 (by omega))); (try (have i_xlp29_2 := Imp.go xlp29_2 (by omega))); (try (have i_xlp29_3 := Imp.go xlp29_3 (by omega))); (try (have i_t57 := Imp.go t57 (by omega))); omega)) alL63 (agr.tr (agr.tr (agr.tr (agr.tr agr.rf ajV26 (by decide) (by decide)) ajV39 (by decide) (by decide)) ajV62 (by decide) (by decide)) ajV83 (by decide) (by decide)) hMV83 hP hD hS (lv_sub hl [1] rfl)
              · skip
                have hb92 : ∀ k, Rc gT (Crun gs (Iprod gd :: k)) (Cbad (V62 0 8).toInt) := fun k => (hr45 k).tr (h69 (IprodR gd :: k))
                refine lv_aload_n hx hb dX12_product_17 rfl (lv_at hl 0 rfl) ?_
                refine lv_iconst (v := 5) hx hb dX12_product_18 (by decide) ?_
                refine lv_iconst (v := 0) hx hb dX12_product_19 (by decide) ?_
                refine lv_iconst (v := 0) hx hb dX12_product_20 (by decide) ?_
                have r93 : Int32.toInt 5 = 5 := by decide
                have r94 : Int32.toInt 0 = 0 := by decide
                refine gA_int (gA_runV (As := [.int 5, .int 0, .int 0]) (rest := []) (ci := 12) (q0 := 0) hx hb hml hown hg hP hD hK hS hA hnw hgk (s_emit3 l D ks H.size ad kk V62 L63 5 0 0 hMV62 (show (V62 0 48).toInt ≤ 9999 from by first | omega | ((try (have i_t57 := Imp.go t57 (by omega))); (try (have i_xlp29_3 := Imp.go xlp29_3 (by omega))); (try (have i_xlp29_2 := Imp.go xlp29_2 (by omega))); (try (have i_t8 := Imp.go t8 (by omega))); (try (have i_t8 := Imp.go t8 (by omega))); (try (have i_xlp29_2 := Imp.go xlp29_2 (by omega))); (try (have i_xlp29_3 := Imp.go xlp29_3 (by omega))); (try (have i_t57 := Imp.go t57 (by omega))); omega))) w2136 w2138 w111 w172 w2139 rfl rfl hdV_yX12_emit ⟨(by show 0 + 1 ≤ 10 * dd + 11; omega), (by show 8 + (4 + 11) + (0) ≤ 300 * dd + 340; omega)⟩ rfl hl.1 rfl (Nat.le_of_ble_eq_true rfl) dX12_product_21 ⟨Nat.le_of_ble_eq_true rfl, Nat.le_of_ble_eq_true rfl⟩) hP hD hK hS hA (fun z95 u96 H locs w97 hP hD hK hS => ?_)
                obtain ⟨V101, L102⟩ := u96
                obtain ⟨hMV101, ajV101, axL102, rgz95, t98, t99, t100⟩ := w97
                have axL102 : L63 = L102 := Eq.symm axL102
                subst axL102
                have hP : va_P D vwCl (mw ad kk ks.1 V101 L63) H := hP
                have hD : va_D A (mw ad kk ks.1 V101 L63) := hD
                have hMV101 : rgd bM V101 := hMV101
                have ajV101 : agr [(0, 48)] [45, 46, 47] V62 V101 := ajV101
                have agV101 : agr [(0, 7), (0, 8), (0, 48), (0, 50)] [35, 36, 37, 38, 45, 46, 47] V V101 := agV62.tr ajV101 (by decide) (by decide)
                have rgz95 : 0 ≤ z95.toInt ∧ z95.toInt ≤ 20000 := rgz95
                have t98 : (V101 0 48).toInt = (V62 0 48).toInt + 1 := t98
                have t99 : z95.toInt = (V62 0 49).toInt + (V62 0 48).toInt := t99
                have t100 : emitted V62 V101 (pA V62) 5 0 0 := t100
                have r103 : 0 ≤ ((V101 0 48)).toInt ∧ ((V101 0 48)).toInt ≤ 10000 := hMV101 0 48
                have pq104 : (V62 0 49).toInt = ((V 0 49)).toInt := congrArg Int32.toInt ((ajV62 0 49 rfl).trans ((ajV39 0 49 rfl).trans ((ajV26 0 49 rfl).trans (ajV13 0 49 rfl))))
                have r105 : 0 ≤ ((V 0 49)).toInt ∧ ((V 0 49)).toInt ≤ 10000 := hMV 0 49
                refine lv_istore_n (lv' := [(1, .int z95), (0, .ref (ad 0))]) hx hb dX12_product_24 rfl hl (by decide) rfl (fun ls hl => ?_)
                refine lv_goto (tgt := 4) hx hb dX12_product_25 (by decide) ?_
                have pq106 : (V101 0 7).toInt = ((V62 0 7)).toInt := congrArg Int32.toInt (ajV101 0 7 rfl)
                have pq107 : (V101 0 8).toInt = ((V62 0 8)).toInt := congrArg Int32.toInt (ajV101 0 8 rfl)
                have pq108 : (V101 0 50).toInt = ((V62 0 50)).toInt := congrArg Int32.toInt (ajV101 0 50 rfl)
                exact ihlp29 (g28 - 1) V101 L63 H locs ls (Or.inr ⟨(show 1 ≤ (V101 0 8).toInt from by omega), (fun k => by rw [show (V101 0 8).toInt = (V62 0 8).toInt from by omega]; exact hb92 k)⟩) (show 0 ≤ (g28 - 1) from by first | omega | ((try (have i_t57 := Imp.go t57 (by omega))); (try (have i_xlp29_3 := Imp.go xlp29_3 (by omega))); (try (have i_xlp29_2 := Imp.go xlp29_2 (by omega))); (try (have i_t8 := Imp.go t8 (by omega))); (try (have i_t8 := Imp.go t8 (by omega))); (try (have i_xlp29_2 := Imp.go xlp29_2 (by omega))); (try (have i_xlp29_3 := Imp.go xlp29_3 (by omega))); (try (have i_t57 := Imp.go t57 (by omega))); omega)) (Imp.mk (fun hp => have hp : (V101 0 8).toInt = 0 := hp; (show (gn : Int) - (V101 0 7).toInt < (g28 - 1) from by first | omega | ((try (have i_t57 := Imp.go t57 (by omega))); (try (have i_xlp29_3 := Imp.go xlp29_3 (by omega))); (try (have i_xlp29_2 := Imp.go xlp29_2 (by omega))); (try (have i_t8 := Imp.go t8 (by omega))); (try (have i_t8 := Imp.go t8 (by omega))); (try (have i_xlp29_2 := Imp.go xlp29_2 (by omega))); (try (have i_xlp29_3 := Imp.go xlp29_3 (by omega))); (try (have i_t57 := Imp.go t57 (by omega))); omega)))) (Imp.mk (fun hp => have hp : (V101 0 8).toInt = 0 := hp; (show (V101 0 48).toInt - (V 0 48).toInt ≤ 2 * ((V101 0 7).toInt - (V 0 7).toInt) from by first | omega | ((try (have i_t57 := Imp.go t57 (by omega))); (try (have i_xlp29_3 := Imp.go xlp29_3 (by omega))); (try (have i_xlp29_2 := Imp.go xlp29_2 (by omega))); (try (have i_t8 := Imp.go t8 (by omega))); (try (have i_t8 := Imp.go t8 (by omega))); (try (have i_xlp29_2 := Imp.go xlp29_2 (by omega))); (try (have i_xlp29_3 := Imp.go xlp29_3 (by omega))); (try (have i_t57 := Imp.go t57 (by omega))); omega)))) (show (V101 0 48).toInt ≤ 8049 - 6 * (V 0 50).toInt from by first | omega | ((try (have i_t57 := Imp.go t57 (by omega))); (try (have i_xlp29_3 := Imp.go xlp29_3 (by omega))); (try (have i_xlp29_2 := Imp.go xlp29_2 (by omega))); (try (have i_t8 := Imp.go t8 (by omega))); (try (have i_t8 := Imp.go t8 (by omega))); (try (have i_xlp29_2 := Imp.go xlp29_2 (by omega))); (try (have i_xlp29_3 := Imp.go xlp29_3 (by omega))); (try (have i_t57 := Imp.go t57 (by omega))); omega)) (show (V101 0 50).toInt = (V 0 50).toInt from by first | omega | ((try (have i_t57 := Imp.go t57 (by omega))); (try (have i_xlp29_3 := Imp.go xlp29_3 (by omega))); (try (have i_xlp29_2 := Imp.go xlp29_2 (by omega))); (try (have i_t8 := Imp.go t8 (by omega))); (try (have i_t8 := Imp.go t8 (by omega))); (try (have i_xlp29_2 := Imp.go xlp29_2 (by omega))); (try (have i_xlp29_3 := Imp.go xlp29_3 (by omega))); (try (have i_t57 := Imp.go t57 (by omega))); omega)) (show (V 0 48).toInt ≤ (V101 0 48).toInt from by first | omega | ((try (have i_t57 := Imp.go t57 (by omega))); (try (have i_xlp29_3 := Imp.go xlp29_3 (by omega))); (try (have i_xlp29_2 := Imp.go xlp29_2 (by omega))); (try (have i_t8 := Imp.go t8 (by omega))); (try (have i_t8 := Imp.go t8 (by omega))); (try (have i_xlp29_2 := Imp.go xlp29_2 (by omega))); (try (have i_xlp29_3 := Imp.go xlp29_3 (by omega))); (try (have i_t57 := Imp.go t57 (by omega))); omega)) (by first | omega | ((try (have i_t57 := Imp.go t57 (by omega))); (try (have i_xlp29_3 := Imp.go xlp29_3 (by omega))); (try (have i_xlp29_2 := Imp.go xlp29_2 (by omega))); (try (have i_t8 := Imp.go t8 (by omega))); (try (have i_t8 := Imp.go t8 (by omega))); (try (have i_xlp29_2 := Imp.go xlp29_2 (by omega))); (try (have i_xlp29_3 := Imp.go xlp29_3 (by omega))); (try (have i_t57 := Imp.go t57 (by omega))); omega)) alL63 (agr.tr (agr.tr (agr.tr (agr.tr agr.rf ajV26 (by decide) (by decide)) ajV39 (by decide) (by decide)) ajV62 (by decide) (by decide)) ajV101 (by decide) (by decide)) hMV101 hP hD hS (lv_sub hl [1] rfl)
          · skip
            have kd109 : gT.1 (s1.1 0) ≠ 42 := fun h9 => h42 (h9.trans (by decide))
            have fz110 := RelM.rg rl43
            have pq111 : (V39 0 8).toInt = ((V26 0 8)).toInt := congrArg Int32.toInt (ajV39 0 8 rfl)
            refine lv_if_eq (tgt := 28) hx hb dX12_product_10 (by decide) (fun c112 => ?_) (fun c112 => ?_)
            · skip
              have f113 : z35.toInt = 0 := b_eq rfl (by decide) c112
              have pq114 : (V39 0 48).toInt = ((V26 0 48)).toInt := congrArg Int32.toInt (ajV39 0 48 rfl)
              have pq115 : (V39 0 50).toInt = ((V26 0 50)).toInt := congrArg Int32.toInt (ajV39 0 50 rfl)
              have hr116 : ∀ k, Rc gT (Crun gs (Iprod gd :: k)) (Crun s1 (k)) := fun k => Rc.go1 (hq k) (prodR_n gd kd109)
              exact W.vret hx hb hr (fun t ht hW => ⟨⟨(V39, L27), rfl, ⟨hMV39, agV39, alL27, (Imp.mk (fun hp => have hp : (V39 0 8).toInt = 0 := hp; (show (V39 0 48).toInt - (V 0 48).toInt ≤ 2 * ((V39 0 7).toInt - (V 0 7).toInt) from by first | omega | ((try (have i_xlp29_3 := Imp.go xlp29_3 (by omega))); (try (have i_xlp29_2 := Imp.go xlp29_2 (by omega))); (try (have i_t8 := Imp.go t8 (by omega))); (try (have i_t8 := Imp.go t8 (by omega))); (try (have i_xlp29_2 := Imp.go xlp29_2 (by omega))); (try (have i_xlp29_3 := Imp.go xlp29_3 (by omega))); omega)))), (show (V39 0 48).toInt ≤ 8049 - 6 * (V 0 50).toInt from by first | omega | ((try (have i_xlp29_3 := Imp.go xlp29_3 (by omega))); (try (have i_xlp29_2 := Imp.go xlp29_2 (by omega))); (try (have i_t8 := Imp.go t8 (by omega))); (try (have i_t8 := Imp.go t8 (by omega))); (try (have i_xlp29_2 := Imp.go xlp29_2 (by omega))); (try (have i_xlp29_3 := Imp.go xlp29_3 (by omega))); omega)), (show (V39 0 50).toInt = (V 0 50).toInt from by first | omega | ((try (have i_xlp29_3 := Imp.go xlp29_3 (by omega))); (try (have i_xlp29_2 := Imp.go xlp29_2 (by omega))); (try (have i_t8 := Imp.go t8 (by omega))); (try (have i_t8 := Imp.go t8 (by omega))); (try (have i_xlp29_2 := Imp.go xlp29_2 (by omega))); (try (have i_xlp29_3 := Imp.go xlp29_3 (by omega))); omega)), (show (V 0 48).toInt ≤ (V39 0 48).toInt from by first | omega | ((try (have i_xlp29_3 := Imp.go xlp29_3 (by omega))); (try (have i_xlp29_2 := Imp.go xlp29_2 (by omega))); (try (have i_t8 := Imp.go t8 (by omega))); (try (have i_t8 := Imp.go t8 (by omega))); (try (have i_xlp29_2 := Imp.go xlp29_2 (by omega))); (try (have i_xlp29_3 := Imp.go xlp29_3 (by omega))); omega)), (Or.inl ⟨W0 rl43, s1, hr116, rl43, keepS.le (keepS.tr (keepS.rf : keepS gs 0 gs) kq) (by decide)⟩)⟩, by rw [ht]; exact hP, va_K.moved hW.alike hK, hD⟩, hS.F ht⟩) hS.2.2 dX12_product_28
            · skip
              have f117 : z35.toInt ≠ 0 := b_neq rfl (by decide) c112
              exfalso; first | omega | ((try (have i_xlp29_3 := Imp.go xlp29_3 (by omega))); (try (have i_xlp29_2 := Imp.go xlp29_2 (by omega))); (try (have i_t8 := Imp.go t8 (by omega))); (try (have i_t8 := Imp.go t8 (by omega))); (try (have i_xlp29_2 := Imp.go xlp29_2 (by omega))); (try (have i_xlp29_3 := Imp.go xlp29_3 (by omega))); omega)
        · skip
          refine lv_bipush (v := 42) hx hb dX12_product_5 (by decide) ?_
          have r118 : Int32.toInt 42 = 42 := by decide
          refine gA_int (gA_runV (As := [.int 42]) (rest := []) (ci := 12) (q0 := 0) hx hb hml hown hg hP hD hK hS hA hnw hgk (s_hasSignB l D ks H.size ad kk V26 L27 42 hMV26 (show 1 ≤ (V26 0 8).toInt from by first | omega | ((try (have i_xlp29_3 := Imp.go xlp29_3 (by omega))); (try (have i_xlp29_2 := Imp.go xlp29_2 (by omega))); (try (have i_t8 := Imp.go t8 (by omega))); (try (have i_t8 := Imp.go t8 (by omega))); (try (have i_xlp29_2 := Imp.go xlp29_2 (by omega))); (try (have i_xlp29_3 := Imp.go xlp29_3 (by omega))); omega))) w2067 w2069 w94 w172 w2070 rfl rfl hdV_yX12_hasSign ⟨(by show 1 + 1 ≤ 10 * dd + 11; omega), (by show 8 + (3 + 11) + (21) ≤ 300 * dd + 340; omega)⟩ rfl hl.1 rfl (Nat.le_of_ble_eq_true rfl) dX12_product_7 ⟨Nat.le_of_ble_eq_true rfl, Nat.le_of_ble_eq_true rfl⟩) hP hD hK hS hA (fun z119 u120 H locs w121 hP hD hK hS => ?_)
          obtain ⟨V123, L124⟩ := u120
          obtain ⟨hMV123, ajV123, axL124, rgz119, t122⟩ := w121
          have axL124 : L27 = L124 := Eq.symm axL124
          subst axL124
          have hP : va_P D vwCl (mw ad kk ks.1 V123 L27) H := hP
          have hD : va_D A (mw ad kk ks.1 V123 L27) := hD
          have hMV123 : rgd bM V123 := hMV123
          have ajV123 : agr [(0, 7)] [] V26 V123 := ajV123
          have agV123 : agr [(0, 7), (0, 8), (0, 48), (0, 50)] [35, 36, 37, 38, 45, 46, 47] V V123 := agV26.tr ajV123 (by decide) (by decide)
          have rgz119 : 0 ≤ z119.toInt ∧ z119.toInt ≤ 0 := rgz119
          have t122 : (V123 0 8).toInt = (V26 0 8).toInt := t122
          have pq125 : (V123 0 8).toInt = ((V26 0 8)).toInt := congrArg Int32.toInt (ajV123 0 8 rfl)
          refine lv_if_eq (tgt := 28) hx hb dX12_product_10 (by decide) (fun c126 => ?_) (fun c126 => ?_)
          · skip
            have f127 : z119.toInt = 0 := b_eq rfl (by decide) c126
            have pq128 : (V123 0 48).toInt = ((V26 0 48)).toInt := congrArg Int32.toInt (ajV123 0 48 rfl)
            have pq129 : (V123 0 50).toInt = ((V26 0 50)).toInt := congrArg Int32.toInt (ajV123 0 50 rfl)
            exact W.vret hx hb hr (fun t ht hW => ⟨⟨(V123, L27), rfl, ⟨hMV123, agV123, alL27, (Imp.mk (fun hp => have hp : (V123 0 8).toInt = 0 := hp; (show (V123 0 48).toInt - (V 0 48).toInt ≤ 2 * ((V123 0 7).toInt - (V 0 7).toInt) from by first | omega | ((try (have i_xlp29_3 := Imp.go xlp29_3 (by omega))); (try (have i_xlp29_2 := Imp.go xlp29_2 (by omega))); (try (have i_t8 := Imp.go t8 (by omega))); (try (have i_t8 := Imp.go t8 (by omega))); (try (have i_xlp29_2 := Imp.go xlp29_2 (by omega))); (try (have i_xlp29_3 := Imp.go xlp29_3 (by omega))); omega)))), (show (V123 0 48).toInt ≤ 8049 - 6 * (V 0 50).toInt from by first | omega | ((try (have i_xlp29_3 := Imp.go xlp29_3 (by omega))); (try (have i_xlp29_2 := Imp.go xlp29_2 (by omega))); (try (have i_t8 := Imp.go t8 (by omega))); (try (have i_t8 := Imp.go t8 (by omega))); (try (have i_xlp29_2 := Imp.go xlp29_2 (by omega))); (try (have i_xlp29_3 := Imp.go xlp29_3 (by omega))); omega)), (show (V123 0 50).toInt = (V 0 50).toInt from by first | omega | ((try (have i_xlp29_3 := Imp.go xlp29_3 (by omega))); (try (have i_xlp29_2 := Imp.go xlp29_2 (by omega))); (try (have i_t8 := Imp.go t8 (by omega))); (try (have i_t8 := Imp.go t8 (by omega))); (try (have i_xlp29_2 := Imp.go xlp29_2 (by omega))); (try (have i_xlp29_3 := Imp.go xlp29_3 (by omega))); omega)), (show (V 0 48).toInt ≤ (V123 0 48).toInt from by first | omega | ((try (have i_xlp29_3 := Imp.go xlp29_3 (by omega))); (try (have i_xlp29_2 := Imp.go xlp29_2 (by omega))); (try (have i_t8 := Imp.go t8 (by omega))); (try (have i_t8 := Imp.go t8 (by omega))); (try (have i_xlp29_2 := Imp.go xlp29_2 (by omega))); (try (have i_xlp29_3 := Imp.go xlp29_3 (by omega))); omega)), (Or.inr ⟨(show 1 ≤ (V123 0 8).toInt from by omega), (fun k => by rw [show (V123 0 8).toInt = (V26 0 8).toInt from by omega]; exact hq k)⟩)⟩, by rw [ht]; exact hP, va_K.moved hW.alike hK, hD⟩, hS.F ht⟩) hS.2.2 dX12_product_28
          · skip
            have f130 : z119.toInt ≠ 0 := b_neq rfl (by decide) c126
            exfalso; first | omega | ((try (have i_xlp29_3 := Imp.go xlp29_3 (by omega))); (try (have i_xlp29_2 := Imp.go xlp29_2 (by omega))); (try (have i_t8 := Imp.go t8 (by omega))); (try (have i_t8 := Imp.go t8 (by omega))); (try (have i_xlp29_2 := Imp.go xlp29_2 (by omega))); (try (have i_xlp29_3 := Imp.go xlp29_3 (by omega))); omega)
    exact lp29 ((((gn : Int) + 1) + 1 : Int).toNat) ((gn : Int) + 1) V13 L14 H locs ls (Or.inl ⟨W0 rl21, sx19, hr23, rl21, keepS.le (keepS.tr (keepS.rf : keepS gs 0 gs) kp22) (by decide)⟩) (show 0 ≤ ((gn : Int) + 1) from by first | omega | ((try (have i_t8 := Imp.go t8 (by omega))); omega)) (Imp.mk (fun hp => have hp : (V13 0 8).toInt = 0 := hp; (show (gn : Int) - (V13 0 7).toInt < ((gn : Int) + 1) from by first | omega | ((try (have i_t8 := Imp.go t8 (by omega))); omega)))) (Imp.mk (fun hp => have hp : (V13 0 8).toInt = 0 := hp; (show (V13 0 48).toInt - (V 0 48).toInt ≤ 2 * ((V13 0 7).toInt - (V 0 7).toInt) from by first | omega | ((try (have i_t8 := Imp.go t8 (by omega))); omega)))) (show (V13 0 48).toInt ≤ 8049 - 6 * (V 0 50).toInt from by first | omega | ((try (have i_t8 := Imp.go t8 (by omega))); omega)) (show (V13 0 50).toInt = (V 0 50).toInt from by first | omega | ((try (have i_t8 := Imp.go t8 (by omega))); omega)) (show (V 0 48).toInt ≤ (V13 0 48).toInt from by first | omega | ((try (have i_t8 := Imp.go t8 (by omega))); omega)) (by first | omega | ((try (have i_t8 := Imp.go t8 (by omega))); omega)) alL14 agr.rf hMV13 hP hD hS (lv_sub hl [0] rfl)
  · skip
    have hb131 : ∀ k, Rc gT (Crun gs (Iprod gd :: k)) (Cbad (V13 0 8).toInt) := fun k => (hr4 k).tr (h20 (IprodR gd :: k))
    have lp135 : ∀ (fulp135 : Nat) (g134 : Int) (V132 : Vf) (L133 : Lf) (H : Heap) (locs : List Loc) (ls : Array Slot), (((V132 0 8).toInt = 0 ∧ ∃ s1 : St, (∀ k, Rc gT (Crun gs (Iprod gd :: k)) (Crun s1 (IprodR gd :: k))) ∧ RelM V132 L133 bq gn gT s1 gl ∧ keepS gs 1 s1) ∨ (1 ≤ (V132 0 8).toInt ∧ ∀ k, Rc gT (Crun gs (Iprod gd :: k)) (Cbad (V132 0 8).toInt))) → 0 ≤ g134 → Imp ((V132 0 8).toInt = 0) ((gn : Int) - (V132 0 7).toInt < g134) → Imp ((V132 0 8).toInt = 0) ((V132 0 48).toInt - (V 0 48).toInt ≤ 2 * ((V132 0 7).toInt - (V 0 7).toInt)) → (V132 0 48).toInt ≤ 8049 - 6 * (V 0 50).toInt → (V132 0 50).toInt = (V 0 50).toInt → (V 0 48).toInt ≤ (V132 0 48).toInt → g134 < (fulp135 : Int) → agL [35, 36, 37, 38, 45, 46, 47] L L133 → agr [(0, 7), (0, 8), (0, 48), (0, 50)] [35, 36, 37, 38, 45, 46, 47] V13 V132 → rgd bM V132 → va_P D vwCl (mw ad kk ks.1 V132 L133) H → va_D A (mw ad kk ks.1 V132 L133) → va_S A s.heap H locs → lv_has ls 2 [(0, .ref (ad 0))] → W p l e (rK 11 340 dd) s m ([.ref (ad 0)] : List Value).toArray below meth c H locs 0 0 (MQ below (q_s_productA D ks ad kk V L  bq gn gT gs gl gd A) ([.ref (ad 0)] : List Value).toArray s 0 0 A) (F0 m 4 ls []) := by
      intro fulp135
      induction fulp135 with
      | zero =>
        intro g134 V132 L133 H locs ls xlp135_0 xlp135_1 xlp135_2 xlp135_3 xlp135_4 xlp135_5 xlp135_6 hn alL133 ajV132 hMV132 hP hD hS hl
        exfalso; omega
      | succ fulp135 ihlp135 =>
        intro g134 V132 L133 H locs ls xlp135_0 xlp135_1 xlp135_2 xlp135_3 xlp135_4 xlp135_5 xlp135_6 hn alL133 ajV132 hMV132 hP hD hS hl
        have agV132 : agr [(0, 7), (0, 8), (0, 48), (0, 50)] [35, 36, 37, 38, 45, 46, 47] V V132 := agV13.tr ajV132 (by decide) (by decide)
        have r136 : 0 ≤ ((V132 0 8)).toInt ∧ ((V132 0 8)).toInt ≤ 70000 := hMV132 0 8
        have r137 : 0 ≤ ((V132 0 48)).toInt ∧ ((V132 0 48)).toInt ≤ 10000 := hMV132 0 48
        have r138 : 0 ≤ ((V132 0 50)).toInt ∧ ((V132 0 50)).toInt ≤ 9 := hMV132 0 50
        refine lv_aload_n hx hb dX12_product_4 rfl (lv_at hl 0 rfl) ?_
        rcases xlp135_0 with ⟨f8, s1, hq, rq, kq⟩ | ⟨f8, hq⟩
        · skip
          have fz139 := RelM.rg rq
          refine lv_bipush (v := 42) hx hb dX12_product_5 (by decide) ?_
          have r140 : Int32.toInt 42 = 42 := by decide
          refine gA_int (gA_runV (As := [.int 42]) (rest := []) (ci := 12) (q0 := 0) hx hb hml hown hg hP hD hK hS hA hnw hgk (s_hasSignA l D ks H.size ad kk V132 L133 42 (bq) (gn) (gT) (s1) (gl) hMV132 rq (sg_yes (j := 42) (by decide) (by decide) (by decide))) w2067 w2069 w94 w172 w2070 rfl rfl hdV_yX12_hasSign ⟨(by show 1 + 1 ≤ 10 * dd + 11; omega), (by show 8 + (3 + 11) + (21) ≤ 300 * dd + 340; omega)⟩ rfl hl.1 rfl (Nat.le_of_ble_eq_true rfl) dX12_product_7 ⟨Nat.le_of_ble_eq_true rfl, Nat.le_of_ble_eq_true rfl⟩) hP hD hK hS hA (fun z141 u142 H locs w143 hP hD hK hS => ?_)
          obtain ⟨V145, L146⟩ := u142
          obtain ⟨hMV145, ajV145, axL146, rgz141, t144⟩ := w143
          have axL146 : L133 = L146 := Eq.symm axL146
          subst axL146
          have hP : va_P D vwCl (mw ad kk ks.1 V145 L133) H := hP
          have hD : va_D A (mw ad kk ks.1 V145 L133) := hD
          have hMV145 : rgd bM V145 := hMV145
          have ajV145 : agr [(0, 7)] [] V132 V145 := ajV145
          have agV145 : agr [(0, 7), (0, 8), (0, 48), (0, 50)] [35, 36, 37, 38, 45, 46, 47] V V145 := agV132.tr ajV145 (by decide) (by decide)
          have rgz141 : 0 ≤ z141.toInt ∧ z141.toInt ≤ 1 := rgz141
          have t144 : (z141.toInt = 1 ∧ (gT).1 ((s1).1 0) = (Int32.toInt 42) ∧ RelM V145 L133 (bq) (gn) (gT) (nx (s1) 1) (gl)) ∨ (z141.toInt = 0 ∧ (gT).1 ((s1).1 0) ≠ (Int32.toInt 42) ∧ RelM V145 L133 (bq) (gn) (gT) (s1) (gl)) := t144
          rcases t144 with ⟨q147, h148, rl149⟩ | ⟨q147, h148, rl149⟩
          · skip
            have kd150 : gT.1 (s1.1 0) = 42 := h148.trans (by decide)
            have hr151 : ∀ k, Rc gT (Crun gs (Iprod gd :: k)) (Crun (nx s1 1) (Ipart gd :: IprodR gd :: k)) := fun k => Rc.go1 (hq k) (prodR_y gd kd150)
            have ps152 : (nx s1 1).1 0 = s1.1 0 + 1 := rfl
            have fz153 := RelM.rg rl149
            have pq154 : (V145 0 8).toInt = ((V132 0 8)).toInt := congrArg Int32.toInt (ajV145 0 8 rfl)
            refine lv_if_eq (tgt := 28) hx hb dX12_product_10 (by decide) (fun c155 => ?_) (fun c155 => ?_)
            · skip
              have f156 : z141.toInt = 0 := b_eq rfl (by decide) c155
              exfalso; first | omega | ((try (have i_xlp135_3 := Imp.go xlp135_3 (by omega))); (try (have i_xlp135_2 := Imp.go xlp135_2 (by omega))); (try (have i_t8 := Imp.go t8 (by omega))); (try (have i_t8 := Imp.go t8 (by omega))); (try (have i_xlp135_2 := Imp.go xlp135_2 (by omega))); (try (have i_xlp135_3 := Imp.go xlp135_3 (by omega))); omega)
            · skip
              have f157 : z141.toInt ≠ 0 := b_neq rfl (by decide) c155
              refine lv_aload_n hx hb dX12_product_13 rfl (lv_at hl 0 rfl) ?_
              have pq158 : (V145 0 48).toInt = ((V132 0 48)).toInt := congrArg Int32.toInt (ajV145 0 48 rfl)
              have pq159 : (V145 0 50).toInt = ((V132 0 50)).toInt := congrArg Int32.toInt (ajV145 0 50 rfl)
              refine gA_void (gA_runV (As := []) (rest := []) (ci := 12) (q0 := 0) hx hb hml hown hg hP hD hK hS hA hnw hgk (hk_s_partA H.size ad kk V145 L133 (bq) (gn) (gT) ((nx s1 1)) (gl) (gd) hMV145 rl149 (show (V145 0 48).toInt ≤ 2 * (V145 0 7).toInt from by first | omega | ((try (have i_xlp135_3 := Imp.go xlp135_3 (by omega))); (try (have i_xlp135_2 := Imp.go xlp135_2 (by omega))); (try (have i_t8 := Imp.go t8 (by omega))); (try (have i_t8 := Imp.go t8 (by omega))); (try (have i_xlp135_2 := Imp.go xlp135_2 (by omega))); (try (have i_xlp135_3 := Imp.go xlp135_3 (by omega))); omega)) (show (V145 0 50).toInt = ((gd) : Int) from by first | omega | ((try (have i_xlp135_3 := Imp.go xlp135_3 (by omega))); (try (have i_xlp135_2 := Imp.go xlp135_2 (by omega))); (try (have i_t8 := Imp.go t8 (by omega))); (try (have i_t8 := Imp.go t8 (by omega))); (try (have i_xlp135_2 := Imp.go xlp135_2 (by omega))); (try (have i_xlp135_3 := Imp.go xlp135_3 (by omega))); omega)) (show (V145 0 50).toInt + (dd : Int) = 8 from by first | omega | ((try (have i_xlp135_3 := Imp.go xlp135_3 (by omega))); (try (have i_xlp135_2 := Imp.go xlp135_2 (by omega))); (try (have i_t8 := Imp.go t8 (by omega))); (try (have i_t8 := Imp.go t8 (by omega))); (try (have i_xlp135_2 := Imp.go xlp135_2 (by omega))); (try (have i_xlp135_3 := Imp.go xlp135_3 (by omega))); omega)) (EM.mv em ((ajV145 0 51 rfl).trans ((ajV132 0 51 rfl).trans (ajV13 0 51 rfl))) ((ajV145 0 52 rfl).trans ((ajV132 0 52 rfl).trans (ajV13 0 52 rfl))) (by rw [(funext (fun q => ajV145 27 q rfl) : V145 27 = V132 27), (funext (fun q => ajV132 27 q rfl) : V132 27 = V13 27), (funext (fun q => ajV13 27 q rfl) : V13 27 = V 27)] : V145 27 = V 27) ((keepS.tr (keepS.tr (keepS.rf : keepS gs 0 gs) kq) (keepS.n1 1))).2.1)) w2128 w2130 w109 w172 w2131 rfl rfl hdV_yX12_part ⟨(by show 10 * dd + 10 + 1 ≤ 10 * dd + 11; omega), (by show 8 + (2 + 11) + (300 * dd + 300) ≤ 300 * dd + 340; omega)⟩ rfl hl.1 rfl (Nat.le_of_ble_eq_true rfl) dX12_product_14 ⟨Nat.le_of_ble_eq_true rfl, Nat.le_of_ble_eq_true rfl⟩) hP hD hK hS hA (fun u161 H locs w162 hP hD hK hS => ?_)
              obtain ⟨V168, L169⟩ := u161
              obtain ⟨hMV168, ajV168, axL169, t163, t164, t165, t166, t167⟩ := w162
              have alL169 : agL [35, 36, 37, 38, 45, 46, 47] L L169 := agL.tr alL133 axL169 (by decide)
              have hP : va_P D vwCl (mw ad kk ks.1 V168 L169) H := hP
              have hD : va_D A (mw ad kk ks.1 V168 L169) := hD
              have hMV168 : rgd bM V168 := hMV168
              have ajV168 : agr [(0, 7), (0, 8), (0, 48), (0, 50)] [35, 36, 37, 38, 45, 46, 47] V145 V168 := ajV168
              have agV168 : agr [(0, 7), (0, 8), (0, 48), (0, 50)] [35, 36, 37, 38, 45, 46, 47] V V168 := agV145.tr ajV168 (by decide) (by decide)
              have t163 : Imp ((V168 0 8).toInt = 0) ((V168 0 48).toInt - (V145 0 48).toInt ≤ 2 * ((V168 0 7).toInt - (V145 0 7).toInt)) := t163
              have t164 : (V168 0 48).toInt ≤ 8048 - 6 * (V145 0 50).toInt := t164
              have t165 : (V168 0 50).toInt = (V145 0 50).toInt := t165
              have t166 : (V145 0 48).toInt ≤ (V168 0 48).toInt := t166
              have t167 : RdM (gT) ((nx s1 1)) (fun k => Ipart (gd) :: k) (fun k => k) (V168 0 8).toInt (fun s9 => RelM V168 L169 (bq) (gn) (gT) s9 (gl) ∧ keepS ((nx s1 1)) 1 s9) := t167
              have r170 : 0 ≤ ((V168 0 48)).toInt ∧ ((V168 0 48)).toInt ≤ 10000 := hMV168 0 48
              have r171 : 0 ≤ ((V168 0 8)).toInt ∧ ((V168 0 8)).toInt ≤ 70000 := hMV168 0 8
              have r172 : 0 ≤ ((V168 0 50)).toInt ∧ ((V168 0 50)).toInt ≤ 9 := hMV168 0 50
              rcases t167 with ⟨q173, sx174, h175, rl176, kp177⟩ | ⟨q173, h175⟩
              · skip
                have hr178 : ∀ k, Rc gT (Crun gs (Iprod gd :: k)) (Crun sx174 (IprodR gd :: k)) := fun k => (hr151 k).tr (h175 (IprodR gd :: k))
                have fz179 := RelM.rg rl176
                have ps180 := (kp177).1
                refine lv_aload_n hx hb dX12_product_17 rfl (lv_at hl 0 rfl) ?_
                refine lv_iconst (v := 5) hx hb dX12_product_18 (by decide) ?_
                refine lv_iconst (v := 0) hx hb dX12_product_19 (by decide) ?_
                refine lv_iconst (v := 0) hx hb dX12_product_20 (by decide) ?_
                have r181 : Int32.toInt 5 = 5 := by decide
                have r182 : Int32.toInt 0 = 0 := by decide
                refine gA_int (gA_runV (As := [.int 5, .int 0, .int 0]) (rest := []) (ci := 12) (q0 := 0) hx hb hml hown hg hP hD hK hS hA hnw hgk (s_emit3 l D ks H.size ad kk V168 L169 5 0 0 hMV168 (show (V168 0 48).toInt ≤ 9999 from by first | omega | ((try (have i_t163 := Imp.go t163 (by omega))); (try (have i_xlp135_3 := Imp.go xlp135_3 (by omega))); (try (have i_xlp135_2 := Imp.go xlp135_2 (by omega))); (try (have i_t8 := Imp.go t8 (by omega))); (try (have i_t8 := Imp.go t8 (by omega))); (try (have i_xlp135_2 := Imp.go xlp135_2 (by omega))); (try (have i_xlp135_3 := Imp.go xlp135_3 (by omega))); (try (have i_t163 := Imp.go t163 (by omega))); omega))) w2136 w2138 w111 w172 w2139 rfl rfl hdV_yX12_emit ⟨(by show 0 + 1 ≤ 10 * dd + 11; omega), (by show 8 + (4 + 11) + (0) ≤ 300 * dd + 340; omega)⟩ rfl hl.1 rfl (Nat.le_of_ble_eq_true rfl) dX12_product_21 ⟨Nat.le_of_ble_eq_true rfl, Nat.le_of_ble_eq_true rfl⟩) hP hD hK hS hA (fun z183 u184 H locs w185 hP hD hK hS => ?_)
                obtain ⟨V189, L190⟩ := u184
                obtain ⟨hMV189, ajV189, axL190, rgz183, t186, t187, t188⟩ := w185
                have axL190 : L169 = L190 := Eq.symm axL190
                subst axL190
                have hP : va_P D vwCl (mw ad kk ks.1 V189 L169) H := hP
                have hD : va_D A (mw ad kk ks.1 V189 L169) := hD
                have hMV189 : rgd bM V189 := hMV189
                have ajV189 : agr [(0, 48)] [45, 46, 47] V168 V189 := ajV189
                have agV189 : agr [(0, 7), (0, 8), (0, 48), (0, 50)] [35, 36, 37, 38, 45, 46, 47] V V189 := agV168.tr ajV189 (by decide) (by decide)
                have rgz183 : 0 ≤ z183.toInt ∧ z183.toInt ≤ 20000 := rgz183
                have t186 : (V189 0 48).toInt = (V168 0 48).toInt + 1 := t186
                have t187 : z183.toInt = (V168 0 49).toInt + (V168 0 48).toInt := t187
                have t188 : emitted V168 V189 (pA V168) 5 0 0 := t188
                have r191 : 0 ≤ ((V189 0 48)).toInt ∧ ((V189 0 48)).toInt ≤ 10000 := hMV189 0 48
                have pq192 : (V168 0 49).toInt = ((V 0 49)).toInt := congrArg Int32.toInt ((ajV168 0 49 rfl).trans ((ajV145 0 49 rfl).trans ((ajV132 0 49 rfl).trans (ajV13 0 49 rfl))))
                have r193 : 0 ≤ ((V 0 49)).toInt ∧ ((V 0 49)).toInt ≤ 10000 := hMV 0 49
                refine lv_istore_n (lv' := [(1, .int z183), (0, .ref (ad 0))]) hx hb dX12_product_24 rfl hl (by decide) rfl (fun ls hl => ?_)
                refine lv_goto (tgt := 4) hx hb dX12_product_25 (by decide) ?_
                have pq194 : (V189 0 7).toInt = ((V168 0 7)).toInt := congrArg Int32.toInt (ajV189 0 7 rfl)
                have pq195 : (V189 0 8).toInt = ((V168 0 8)).toInt := congrArg Int32.toInt (ajV189 0 8 rfl)
                have pq196 : (V189 0 50).toInt = ((V168 0 50)).toInt := congrArg Int32.toInt (ajV189 0 50 rfl)
                have rl197 : RelM V189 L169 bq gn gT sx174 gl := RelM.ag rl176 (show agr [(0, 48)] [45, 46, 47] V168 V189 from (agr.tr agr.rf ajV189 (by decide) (by decide))) (by decide) (show agL [] L169 L169 from agL.rf) (by decide)
                exact ihlp135 (g134 - 1) V189 L169 H locs ls (Or.inl ⟨W0 rl197, sx174, hr178, rl197, keepS.le (keepS.tr (keepS.tr (keepS.tr (keepS.rf : keepS gs 0 gs) kq) (keepS.n1 1)) kp177) (by decide)⟩) (show 0 ≤ (g134 - 1) from by first | omega | ((try (have i_t163 := Imp.go t163 (by omega))); (try (have i_xlp135_3 := Imp.go xlp135_3 (by omega))); (try (have i_xlp135_2 := Imp.go xlp135_2 (by omega))); (try (have i_t8 := Imp.go t8 (by omega))); (try (have i_t8 := Imp.go t8 (by omega))); (try (have i_xlp135_2 := Imp.go xlp135_2 (by omega))); (try (have i_xlp135_3 := Imp.go xlp135_3 (by omega))); (try (have i_t163 := Imp.go t163 (by omega))); omega)) (Imp.mk (fun hp => have hp : (V189 0 8).toInt = 0 := hp; (show (gn : Int) - (V189 0 7).toInt < (g134 - 1) from by first | omega | ((try (have i_t163 := Imp.go t163 (by omega))); (try (have i_xlp135_3 := Imp.go xlp135_3 (by omega))); (try (have i_xlp135_2 := Imp.go xlp135_2 (by omega))); (try (have i_t8 := Imp.go t8 (by omega))); (try (have i_t8 := Imp.go t8 (by omega))); (try (have i_xlp135_2 := Imp.go xlp135_2 (by omega))); (try (have i_xlp135_3 := Imp.go xlp135_3 (by omega))); (try (have i_t163 := Imp.go t163 (by omega))); omega)))) (Imp.mk (fun hp => have hp : (V189 0 8).toInt = 0 := hp; (show (V189 0 48).toInt - (V 0 48).toInt ≤ 2 * ((V189 0 7).toInt - (V 0 7).toInt) from by first | omega | ((try (have i_t163 := Imp.go t163 (by omega))); (try (have i_xlp135_3 := Imp.go xlp135_3 (by omega))); (try (have i_xlp135_2 := Imp.go xlp135_2 (by omega))); (try (have i_t8 := Imp.go t8 (by omega))); (try (have i_t8 := Imp.go t8 (by omega))); (try (have i_xlp135_2 := Imp.go xlp135_2 (by omega))); (try (have i_xlp135_3 := Imp.go xlp135_3 (by omega))); (try (have i_t163 := Imp.go t163 (by omega))); omega)))) (show (V189 0 48).toInt ≤ 8049 - 6 * (V 0 50).toInt from by first | omega | ((try (have i_t163 := Imp.go t163 (by omega))); (try (have i_xlp135_3 := Imp.go xlp135_3 (by omega))); (try (have i_xlp135_2 := Imp.go xlp135_2 (by omega))); (try (have i_t8 := Imp.go t8 (by omega))); (try (have i_t8 := Imp.go t8 (by omega))); (try (have i_xlp135_2 := Imp.go xlp135_2 (by omega))); (try (have i_xlp135_3 := Imp.go xlp135_3 (by omega))); (try (have i_t163 := Imp.go t163 (by omega))); omega)) (show (V189 0 50).toInt = (V 0 50).toInt from by first | omega | ((try (have i_t163 := Imp.go t163 (by omega))); (try (have i_xlp135_3 := Imp.go xlp135_3 (by omega))); (try (have i_xlp135_2 := Imp.go xlp135_2 (by omega))); (try (have i_t8 := Imp.go t8 (by omega))); (try (have i_t8 := Imp.go t8 (by omega))); (try (have i_xlp135_2 := Imp.go xlp135_2 (by omega))); (try (have i_xlp135_3 := Imp.go xlp135_3 (by omega))); (try (have i_t163 := Imp.go t163 (by omega))); omega)) (show (V 0 48).toInt ≤ (V189 0 48).toInt from by first | omega | ((try (have i_t163 := Imp.go t163 (by omega))); (try (have i_xlp135_3 := Imp.go xlp135_3 (by omega))); (try (have i_xlp135_2 := Imp.go xlp135_2 (by omega))); (try (have i_t8 := Imp.go t8 (by omega))); (try (have i_t8 := Imp.go t8 (by omega))); (try (have i_xlp135_2 := Imp.go xlp135_2 (by omega))); (try (have i_xlp135_3 := Imp.go xlp135_3 (by omega))); (try (have i_t163 := Imp.go t163 (by omega))); omega)) (by first | omega | ((try (have i_t163 := Imp.go t163 (by omega))); (try (have i_xlp135_3 := Imp.go xlp135_3 (by omega))); (try (have i_xlp135_2 := Imp.go xlp135_2 (by omega))); (try (have i_t8 := Imp.go t8 (by omega))); (try (have i_t8 := Imp.go t8 (by omega))); (try (have i_xlp135_2 := Imp.go xlp135_2 (by omega))); (try (have i_xlp135_3 := Imp.go xlp135_3 (by omega))); (try (have i_t163 := Imp.go t163 (by omega))); omega)) alL169 (agr.tr (agr.tr (agr.tr (agr.tr agr.rf ajV132 (by decide) (by decide)) ajV145 (by decide) (by decide)) ajV168 (by decide) (by decide)) ajV189 (by decide) (by decide)) hMV189 hP hD hS (lv_sub hl [1] rfl)
              · skip
                have hb198 : ∀ k, Rc gT (Crun gs (Iprod gd :: k)) (Cbad (V168 0 8).toInt) := fun k => (hr151 k).tr (h175 (IprodR gd :: k))
                refine lv_aload_n hx hb dX12_product_17 rfl (lv_at hl 0 rfl) ?_
                refine lv_iconst (v := 5) hx hb dX12_product_18 (by decide) ?_
                refine lv_iconst (v := 0) hx hb dX12_product_19 (by decide) ?_
                refine lv_iconst (v := 0) hx hb dX12_product_20 (by decide) ?_
                have r199 : Int32.toInt 5 = 5 := by decide
                have r200 : Int32.toInt 0 = 0 := by decide
                refine gA_int (gA_runV (As := [.int 5, .int 0, .int 0]) (rest := []) (ci := 12) (q0 := 0) hx hb hml hown hg hP hD hK hS hA hnw hgk (s_emit3 l D ks H.size ad kk V168 L169 5 0 0 hMV168 (show (V168 0 48).toInt ≤ 9999 from by first | omega | ((try (have i_t163 := Imp.go t163 (by omega))); (try (have i_xlp135_3 := Imp.go xlp135_3 (by omega))); (try (have i_xlp135_2 := Imp.go xlp135_2 (by omega))); (try (have i_t8 := Imp.go t8 (by omega))); (try (have i_t8 := Imp.go t8 (by omega))); (try (have i_xlp135_2 := Imp.go xlp135_2 (by omega))); (try (have i_xlp135_3 := Imp.go xlp135_3 (by omega))); (try (have i_t163 := Imp.go t163 (by omega))); omega))) w2136 w2138 w111 w172 w2139 rfl rfl hdV_yX12_emit ⟨(by show 0 + 1 ≤ 10 * dd + 11; omega), (by show 8 + (4 + 11) + (0) ≤ 300 * dd + 340; omega)⟩ rfl hl.1 rfl (Nat.le_of_ble_eq_true rfl) dX12_product_21 ⟨Nat.le_of_ble_eq_true rfl, Nat.le_of_ble_eq_true rfl⟩) hP hD hK hS hA (fun z201 u202 H locs w203 hP hD hK hS => ?_)
                obtain ⟨V207, L208⟩ := u202
                obtain ⟨hMV207, ajV207, axL208, rgz201, t204, t205, t206⟩ := w203
                have axL208 : L169 = L208 := Eq.symm axL208
                subst axL208
                have hP : va_P D vwCl (mw ad kk ks.1 V207 L169) H := hP
                have hD : va_D A (mw ad kk ks.1 V207 L169) := hD
                have hMV207 : rgd bM V207 := hMV207
                have ajV207 : agr [(0, 48)] [45, 46, 47] V168 V207 := ajV207
                have agV207 : agr [(0, 7), (0, 8), (0, 48), (0, 50)] [35, 36, 37, 38, 45, 46, 47] V V207 := agV168.tr ajV207 (by decide) (by decide)
                have rgz201 : 0 ≤ z201.toInt ∧ z201.toInt ≤ 20000 := rgz201
                have t204 : (V207 0 48).toInt = (V168 0 48).toInt + 1 := t204
                have t205 : z201.toInt = (V168 0 49).toInt + (V168 0 48).toInt := t205
                have t206 : emitted V168 V207 (pA V168) 5 0 0 := t206
                have r209 : 0 ≤ ((V207 0 48)).toInt ∧ ((V207 0 48)).toInt ≤ 10000 := hMV207 0 48
                have pq210 : (V168 0 49).toInt = ((V 0 49)).toInt := congrArg Int32.toInt ((ajV168 0 49 rfl).trans ((ajV145 0 49 rfl).trans ((ajV132 0 49 rfl).trans (ajV13 0 49 rfl))))
                have r211 : 0 ≤ ((V 0 49)).toInt ∧ ((V 0 49)).toInt ≤ 10000 := hMV 0 49
                refine lv_istore_n (lv' := [(1, .int z201), (0, .ref (ad 0))]) hx hb dX12_product_24 rfl hl (by decide) rfl (fun ls hl => ?_)
                refine lv_goto (tgt := 4) hx hb dX12_product_25 (by decide) ?_
                have pq212 : (V207 0 7).toInt = ((V168 0 7)).toInt := congrArg Int32.toInt (ajV207 0 7 rfl)
                have pq213 : (V207 0 8).toInt = ((V168 0 8)).toInt := congrArg Int32.toInt (ajV207 0 8 rfl)
                have pq214 : (V207 0 50).toInt = ((V168 0 50)).toInt := congrArg Int32.toInt (ajV207 0 50 rfl)
                exact ihlp135 (g134 - 1) V207 L169 H locs ls (Or.inr ⟨(show 1 ≤ (V207 0 8).toInt from by omega), (fun k => by rw [show (V207 0 8).toInt = (V168 0 8).toInt from by omega]; exact hb198 k)⟩) (show 0 ≤ (g134 - 1) from by first | omega | ((try (have i_t163 := Imp.go t163 (by omega))); (try (have i_xlp135_3 := Imp.go xlp135_3 (by omega))); (try (have i_xlp135_2 := Imp.go xlp135_2 (by omega))); (try (have i_t8 := Imp.go t8 (by omega))); (try (have i_t8 := Imp.go t8 (by omega))); (try (have i_xlp135_2 := Imp.go xlp135_2 (by omega))); (try (have i_xlp135_3 := Imp.go xlp135_3 (by omega))); (try (have i_t163 := Imp.go t163 (by omega))); omega)) (Imp.mk (fun hp => have hp : (V207 0 8).toInt = 0 := hp; (show (gn : Int) - (V207 0 7).toInt < (g134 - 1) from by first | omega | ((try (have i_t163 := Imp.go t163 (by omega))); (try (have i_xlp135_3 := Imp.go xlp135_3 (by omega))); (try (have i_xlp135_2 := Imp.go xlp135_2 (by omega))); (try (have i_t8 := Imp.go t8 (by omega))); (try (have i_t8 := Imp.go t8 (by omega))); (try (have i_xlp135_2 := Imp.go xlp135_2 (by omega))); (try (have i_xlp135_3 := Imp.go xlp135_3 (by omega))); (try (have i_t163 := Imp.go t163 (by omega))); omega)))) (Imp.mk (fun hp => have hp : (V207 0 8).toInt = 0 := hp; (show (V207 0 48).toInt - (V 0 48).toInt ≤ 2 * ((V207 0 7).toInt - (V 0 7).toInt) from by first | omega | ((try (have i_t163 := Imp.go t163 (by omega))); (try (have i_xlp135_3 := Imp.go xlp135_3 (by omega))); (try (have i_xlp135_2 := Imp.go xlp135_2 (by omega))); (try (have i_t8 := Imp.go t8 (by omega))); (try (have i_t8 := Imp.go t8 (by omega))); (try (have i_xlp135_2 := Imp.go xlp135_2 (by omega))); (try (have i_xlp135_3 := Imp.go xlp135_3 (by omega))); (try (have i_t163 := Imp.go t163 (by omega))); omega)))) (show (V207 0 48).toInt ≤ 8049 - 6 * (V 0 50).toInt from by first | omega | ((try (have i_t163 := Imp.go t163 (by omega))); (try (have i_xlp135_3 := Imp.go xlp135_3 (by omega))); (try (have i_xlp135_2 := Imp.go xlp135_2 (by omega))); (try (have i_t8 := Imp.go t8 (by omega))); (try (have i_t8 := Imp.go t8 (by omega))); (try (have i_xlp135_2 := Imp.go xlp135_2 (by omega))); (try (have i_xlp135_3 := Imp.go xlp135_3 (by omega))); (try (have i_t163 := Imp.go t163 (by omega))); omega)) (show (V207 0 50).toInt = (V 0 50).toInt from by first | omega | ((try (have i_t163 := Imp.go t163 (by omega))); (try (have i_xlp135_3 := Imp.go xlp135_3 (by omega))); (try (have i_xlp135_2 := Imp.go xlp135_2 (by omega))); (try (have i_t8 := Imp.go t8 (by omega))); (try (have i_t8 := Imp.go t8 (by omega))); (try (have i_xlp135_2 := Imp.go xlp135_2 (by omega))); (try (have i_xlp135_3 := Imp.go xlp135_3 (by omega))); (try (have i_t163 := Imp.go t163 (by omega))); omega)) (show (V 0 48).toInt ≤ (V207 0 48).toInt from by first | omega | ((try (have i_t163 := Imp.go t163 (by omega))); (try (have i_xlp135_3 := Imp.go xlp135_3 (by omega))); (try (have i_xlp135_2 := Imp.go xlp135_2 (by omega))); (try (have i_t8 := Imp.go t8 (by omega))); (try (have i_t8 := Imp.go t8 (by omega))); (try (have i_xlp135_2 := Imp.go xlp135_2 (by omega))); (try (have i_xlp135_3 := Imp.go xlp135_3 (by omega))); (try (have i_t163 := Imp.go t163 (by omega))); omega)) (by first | omega | ((try (have i_t163 := Imp.go t163 (by omega))); (try (have i_xlp135_3 := Imp.go xlp135_3 (by omega))); (try (have i_xlp135_2 := Imp.go xlp135_2 (by omega))); (try (have i_t8 := Imp.go t8 (by omega))); (try (have i_t8 := Imp.go t8 (by omega))); (try (have i_xlp135_2 := Imp.go xlp135_2 (by omega))); (try (have i_xlp135_3 := Imp.go xlp135_3 (by omega))); (try (have i_t163 := Imp.go t163 (by omega))); omega)) alL169 (agr.tr (agr.tr (agr.tr (agr.tr agr.rf ajV132 (by decide) (by decide)) ajV145 (by decide) (by decide)) ajV168 (by decide) (by decide)) ajV207 (by decide) (by decide)) hMV207 hP hD hS (lv_sub hl [1] rfl)
          · skip
            have kd215 : gT.1 (s1.1 0) ≠ 42 := fun h9 => h148 (h9.trans (by decide))
            have fz216 := RelM.rg rl149
            have pq217 : (V145 0 8).toInt = ((V132 0 8)).toInt := congrArg Int32.toInt (ajV145 0 8 rfl)
            refine lv_if_eq (tgt := 28) hx hb dX12_product_10 (by decide) (fun c218 => ?_) (fun c218 => ?_)
            · skip
              have f219 : z141.toInt = 0 := b_eq rfl (by decide) c218
              have pq220 : (V145 0 48).toInt = ((V132 0 48)).toInt := congrArg Int32.toInt (ajV145 0 48 rfl)
              have pq221 : (V145 0 50).toInt = ((V132 0 50)).toInt := congrArg Int32.toInt (ajV145 0 50 rfl)
              have hr222 : ∀ k, Rc gT (Crun gs (Iprod gd :: k)) (Crun s1 (k)) := fun k => Rc.go1 (hq k) (prodR_n gd kd215)
              exact W.vret hx hb hr (fun t ht hW => ⟨⟨(V145, L133), rfl, ⟨hMV145, agV145, alL133, (Imp.mk (fun hp => have hp : (V145 0 8).toInt = 0 := hp; (show (V145 0 48).toInt - (V 0 48).toInt ≤ 2 * ((V145 0 7).toInt - (V 0 7).toInt) from by first | omega | ((try (have i_xlp135_3 := Imp.go xlp135_3 (by omega))); (try (have i_xlp135_2 := Imp.go xlp135_2 (by omega))); (try (have i_t8 := Imp.go t8 (by omega))); (try (have i_t8 := Imp.go t8 (by omega))); (try (have i_xlp135_2 := Imp.go xlp135_2 (by omega))); (try (have i_xlp135_3 := Imp.go xlp135_3 (by omega))); omega)))), (show (V145 0 48).toInt ≤ 8049 - 6 * (V 0 50).toInt from by first | omega | ((try (have i_xlp135_3 := Imp.go xlp135_3 (by omega))); (try (have i_xlp135_2 := Imp.go xlp135_2 (by omega))); (try (have i_t8 := Imp.go t8 (by omega))); (try (have i_t8 := Imp.go t8 (by omega))); (try (have i_xlp135_2 := Imp.go xlp135_2 (by omega))); (try (have i_xlp135_3 := Imp.go xlp135_3 (by omega))); omega)), (show (V145 0 50).toInt = (V 0 50).toInt from by first | omega | ((try (have i_xlp135_3 := Imp.go xlp135_3 (by omega))); (try (have i_xlp135_2 := Imp.go xlp135_2 (by omega))); (try (have i_t8 := Imp.go t8 (by omega))); (try (have i_t8 := Imp.go t8 (by omega))); (try (have i_xlp135_2 := Imp.go xlp135_2 (by omega))); (try (have i_xlp135_3 := Imp.go xlp135_3 (by omega))); omega)), (show (V 0 48).toInt ≤ (V145 0 48).toInt from by first | omega | ((try (have i_xlp135_3 := Imp.go xlp135_3 (by omega))); (try (have i_xlp135_2 := Imp.go xlp135_2 (by omega))); (try (have i_t8 := Imp.go t8 (by omega))); (try (have i_t8 := Imp.go t8 (by omega))); (try (have i_xlp135_2 := Imp.go xlp135_2 (by omega))); (try (have i_xlp135_3 := Imp.go xlp135_3 (by omega))); omega)), (Or.inl ⟨W0 rl149, s1, hr222, rl149, keepS.le (keepS.tr (keepS.rf : keepS gs 0 gs) kq) (by decide)⟩)⟩, by rw [ht]; exact hP, va_K.moved hW.alike hK, hD⟩, hS.F ht⟩) hS.2.2 dX12_product_28
            · skip
              have f223 : z141.toInt ≠ 0 := b_neq rfl (by decide) c218
              exfalso; first | omega | ((try (have i_xlp135_3 := Imp.go xlp135_3 (by omega))); (try (have i_xlp135_2 := Imp.go xlp135_2 (by omega))); (try (have i_t8 := Imp.go t8 (by omega))); (try (have i_t8 := Imp.go t8 (by omega))); (try (have i_xlp135_2 := Imp.go xlp135_2 (by omega))); (try (have i_xlp135_3 := Imp.go xlp135_3 (by omega))); omega)
        · skip
          refine lv_bipush (v := 42) hx hb dX12_product_5 (by decide) ?_
          have r224 : Int32.toInt 42 = 42 := by decide
          refine gA_int (gA_runV (As := [.int 42]) (rest := []) (ci := 12) (q0 := 0) hx hb hml hown hg hP hD hK hS hA hnw hgk (s_hasSignB l D ks H.size ad kk V132 L133 42 hMV132 (show 1 ≤ (V132 0 8).toInt from by first | omega | ((try (have i_xlp135_3 := Imp.go xlp135_3 (by omega))); (try (have i_xlp135_2 := Imp.go xlp135_2 (by omega))); (try (have i_t8 := Imp.go t8 (by omega))); (try (have i_t8 := Imp.go t8 (by omega))); (try (have i_xlp135_2 := Imp.go xlp135_2 (by omega))); (try (have i_xlp135_3 := Imp.go xlp135_3 (by omega))); omega))) w2067 w2069 w94 w172 w2070 rfl rfl hdV_yX12_hasSign ⟨(by show 1 + 1 ≤ 10 * dd + 11; omega), (by show 8 + (3 + 11) + (21) ≤ 300 * dd + 340; omega)⟩ rfl hl.1 rfl (Nat.le_of_ble_eq_true rfl) dX12_product_7 ⟨Nat.le_of_ble_eq_true rfl, Nat.le_of_ble_eq_true rfl⟩) hP hD hK hS hA (fun z225 u226 H locs w227 hP hD hK hS => ?_)
          obtain ⟨V229, L230⟩ := u226
          obtain ⟨hMV229, ajV229, axL230, rgz225, t228⟩ := w227
          have axL230 : L133 = L230 := Eq.symm axL230
          subst axL230
          have hP : va_P D vwCl (mw ad kk ks.1 V229 L133) H := hP
          have hD : va_D A (mw ad kk ks.1 V229 L133) := hD
          have hMV229 : rgd bM V229 := hMV229
          have ajV229 : agr [(0, 7)] [] V132 V229 := ajV229
          have agV229 : agr [(0, 7), (0, 8), (0, 48), (0, 50)] [35, 36, 37, 38, 45, 46, 47] V V229 := agV132.tr ajV229 (by decide) (by decide)
          have rgz225 : 0 ≤ z225.toInt ∧ z225.toInt ≤ 0 := rgz225
          have t228 : (V229 0 8).toInt = (V132 0 8).toInt := t228
          have pq231 : (V229 0 8).toInt = ((V132 0 8)).toInt := congrArg Int32.toInt (ajV229 0 8 rfl)
          refine lv_if_eq (tgt := 28) hx hb dX12_product_10 (by decide) (fun c232 => ?_) (fun c232 => ?_)
          · skip
            have f233 : z225.toInt = 0 := b_eq rfl (by decide) c232
            have pq234 : (V229 0 48).toInt = ((V132 0 48)).toInt := congrArg Int32.toInt (ajV229 0 48 rfl)
            have pq235 : (V229 0 50).toInt = ((V132 0 50)).toInt := congrArg Int32.toInt (ajV229 0 50 rfl)
            exact W.vret hx hb hr (fun t ht hW => ⟨⟨(V229, L133), rfl, ⟨hMV229, agV229, alL133, (Imp.mk (fun hp => have hp : (V229 0 8).toInt = 0 := hp; (show (V229 0 48).toInt - (V 0 48).toInt ≤ 2 * ((V229 0 7).toInt - (V 0 7).toInt) from by first | omega | ((try (have i_xlp135_3 := Imp.go xlp135_3 (by omega))); (try (have i_xlp135_2 := Imp.go xlp135_2 (by omega))); (try (have i_t8 := Imp.go t8 (by omega))); (try (have i_t8 := Imp.go t8 (by omega))); (try (have i_xlp135_2 := Imp.go xlp135_2 (by omega))); (try (have i_xlp135_3 := Imp.go xlp135_3 (by omega))); omega)))), (show (V229 0 48).toInt ≤ 8049 - 6 * (V 0 50).toInt from by first | omega | ((try (have i_xlp135_3 := Imp.go xlp135_3 (by omega))); (try (have i_xlp135_2 := Imp.go xlp135_2 (by omega))); (try (have i_t8 := Imp.go t8 (by omega))); (try (have i_t8 := Imp.go t8 (by omega))); (try (have i_xlp135_2 := Imp.go xlp135_2 (by omega))); (try (have i_xlp135_3 := Imp.go xlp135_3 (by omega))); omega)), (show (V229 0 50).toInt = (V 0 50).toInt from by first | omega | ((try (have i_xlp135_3 := Imp.go xlp135_3 (by omega))); (try (have i_xlp135_2 := Imp.go xlp135_2 (by omega))); (try (have i_t8 := Imp.go t8 (by omega))); (try (have i_t8 := Imp.go t8 (by omega))); (try (have i_xlp135_2 := Imp.go xlp135_2 (by omega))); (try (have i_xlp135_3 := Imp.go xlp135_3 (by omega))); omega)), (show (V 0 48).toInt ≤ (V229 0 48).toInt from by first | omega | ((try (have i_xlp135_3 := Imp.go xlp135_3 (by omega))); (try (have i_xlp135_2 := Imp.go xlp135_2 (by omega))); (try (have i_t8 := Imp.go t8 (by omega))); (try (have i_t8 := Imp.go t8 (by omega))); (try (have i_xlp135_2 := Imp.go xlp135_2 (by omega))); (try (have i_xlp135_3 := Imp.go xlp135_3 (by omega))); omega)), (Or.inr ⟨(show 1 ≤ (V229 0 8).toInt from by omega), (fun k => by rw [show (V229 0 8).toInt = (V132 0 8).toInt from by omega]; exact hq k)⟩)⟩, by rw [ht]; exact hP, va_K.moved hW.alike hK, hD⟩, hS.F ht⟩) hS.2.2 dX12_product_28
          · skip
            have f236 : z225.toInt ≠ 0 := b_neq rfl (by decide) c232
            exfalso; first | omega | ((try (have i_xlp135_3 := Imp.go xlp135_3 (by omega))); (try (have i_xlp135_2 := Imp.go xlp135_2 (by omega))); (try (have i_t8 := Imp.go t8 (by omega))); (try (have i_t8 := Imp.go t8 (by omega))); (try (have i_xlp135_2 := Imp.go xlp135_2 (by omega))); (try (have i_xlp135_3 := Imp.go xlp135_3 (by omega))); omega)
    exact lp135 ((((gn : Int) + 1) + 1 : Int).toNat) ((gn : Int) + 1) V13 L14 H locs ls (Or.inr ⟨(show 1 ≤ (V13 0 8).toInt from by omega), hb131⟩) (show 0 ≤ ((gn : Int) + 1) from by first | omega | ((try (have i_t8 := Imp.go t8 (by omega))); omega)) (Imp.mk (fun hp => have hp : (V13 0 8).toInt = 0 := hp; (show (gn : Int) - (V13 0 7).toInt < ((gn : Int) + 1) from by first | omega | ((try (have i_t8 := Imp.go t8 (by omega))); omega)))) (Imp.mk (fun hp => have hp : (V13 0 8).toInt = 0 := hp; (show (V13 0 48).toInt - (V 0 48).toInt ≤ 2 * ((V13 0 7).toInt - (V 0 7).toInt) from by first | omega | ((try (have i_t8 := Imp.go t8 (by omega))); omega)))) (show (V13 0 48).toInt ≤ 8049 - 6 * (V 0 50).toInt from by first | omega | ((try (have i_t8 := Imp.go t8 (by omega))); omega)) (show (V13 0 50).toInt = (V 0 50).toInt from by first | omega | ((try (have i_t8 := Imp.go t8 (by omega))); omega)) (show (V 0 48).toInt ≤ (V13 0 48).toInt from by first | omega | ((try (have i_t8 := Imp.go t8 (by omega))); omega)) (by first | omega | ((try (have i_t8 := Imp.go t8 (by omega))); omega)) alL14 agr.rf hMV13 hP hD hS (lv_sub hl [0] rfl)
set_option maxHeartbeats 4000000 in
set_option maxRecDepth 100000 in
theorem s_bracketedA {l : Launch} {D : va_G} {ks : KS} {dd : Nat} (hk_s_expressionA : K_s_expressionA l D ks dd) : K_s_bracketedA l D ks dd := by
  intro sz ad kk V L  bq gn gT gs gl gd hMV rel c1 yd c4 em
  refine g_met (q_s_bracketedA D ks ad kk V L  bq gn gT gs gl gd) (by decide) (Nat.le_of_ble_eq_true rfl) ?_
  intro p e s m below meth c A ls H locs hx hb hr hml hown hg hlocks hin hnw hgk hP hK hD hS hA hl
  have hown : s.vm.findClass RX12 = some m.cls := hown
  have hl : lv_has ls 1 [(0, .ref (ad 0))] := hl
  have hP : va_P D vwCl (mw ad kk ks.1 V L) H := hP
  have hD : va_D A (mw ad kk ks.1 V L) := hD
  have hK : va_K D vwCl (mty kk) s := hK
  have agV : agr [(0, 7), (0, 8), (0, 48), (0, 50)] [35, 36, 37, 38, 45, 46, 47] V V := agr.rf
  have alL : agL [35, 36, 37, 38, 45, 46, 47] L L := agL.rf
  have r1 : 0 ≤ ((V 0 48)).toInt ∧ ((V 0 48)).toInt ≤ 10000 := hMV 0 48
  have r2 : 0 ≤ ((V 0 50)).toInt ∧ ((V 0 50)).toInt ≤ 9 := hMV 0 50
  have rg0 := RelM.rg rel
  have cl0 := RelM.cl rel
  have cq0 := RelM.cq rel
  refine lv_aload_n hx hb dX12_bracketed_0 rfl (lv_at hl 0 rfl) ?_
  refine lv_bipush (v := 40) hx hb dX12_bracketed_1 (by decide) ?_
  have r3 : Int32.toInt 40 = 40 := by decide
  refine gA_void (gA_runV (As := [.int 40]) (rest := []) (ci := 12) (q0 := 0) hx hb hml hown hg hP hD hK hS hA hnw hgk (s_takeSignA l D ks H.size ad kk V L 40 (bq) (gn) (gT) (gs) (gl) hMV rel (sg_yes (j := 40) (by decide) (by decide) (by decide))) w2075 w2077 w96 w172 w2078 rfl rfl hdV_yX12_takeSign ⟨(by show 1 + 1 ≤ 10 * dd + 14; omega), (by show 8 + (2 + 11) + (21) ≤ 300 * dd + 460; omega)⟩ rfl hl.1 rfl (Nat.le_of_ble_eq_true rfl) dX12_bracketed_3 ⟨Nat.le_of_ble_eq_true rfl, Nat.le_of_ble_eq_true rfl⟩) hP hD hK hS hA (fun u5 H locs w6 hP hD hK hS => ?_)
  obtain ⟨V8, L9⟩ := u5
  obtain ⟨hMV8, ajV8, axL9, t7⟩ := w6
  have axL9 : L = L9 := Eq.symm axL9
  subst axL9
  have hP : va_P D vwCl (mw ad kk ks.1 V8 L) H := hP
  have hD : va_D A (mw ad kk ks.1 V8 L) := hD
  have hMV8 : rgd bM V8 := hMV8
  have ajV8 : agr [(0, 7), (0, 8)] [] V V8 := ajV8
  have agV8 : agr [(0, 7), (0, 8), (0, 48), (0, 50)] [35, 36, 37, 38, 45, 46, 47] V V8 := agV.tr ajV8 (by decide) (by decide)
  have t7 : ((V8 0 8).toInt = 0 ∧ (gT).1 ((gs).1 0) = (Int32.toInt 40) ∧ RelM V8 L (bq) (gn) (gT) (nx (gs) 1) (gl)) ∨ (1 ≤ (V8 0 8).toInt ∧ (gT).1 ((gs).1 0) ≠ (Int32.toInt 40) ∧ (V8 0 8).toInt = 1 + 16 * (gT).2.2 ((gs).1 0)) := t7
  have hr13 : ∀ k, Rc gT (Crun gs (Itake 40 :: Iexpr gd :: Itake 41 :: k)) (Crun gs (Itake 40 :: Iexpr gd :: Itake 41 :: k)) := fun k => Rc.rf
  rcases t7 with ⟨q10, h11, rl12⟩ | ⟨q10, h11, rl12⟩
  · skip
    have kd14 : gT.1 (gs.1 0) = 40 := h11.trans (by decide)
    have hr15 : ∀ k, Rc gT (Crun gs (Itake 40 :: Iexpr gd :: Itake 41 :: k)) (Crun (nx gs 1) (Iexpr gd :: Itake 41 :: k)) := fun k => Rc.go1 (hr13 k) (tk_y kd14)
    have ps16 : (nx gs 1).1 0 = gs.1 0 + 1 := rfl
    have fz17 := RelM.rg rl12
    have r18 : 0 ≤ ((V8 0 8)).toInt ∧ ((V8 0 8)).toInt ≤ 70000 := hMV8 0 8
    refine lv_aload_n hx hb dX12_bracketed_6 rfl (lv_at hl 0 rfl) ?_
    have pq19 : (V8 0 48).toInt = ((V 0 48)).toInt := congrArg Int32.toInt (ajV8 0 48 rfl)
    have pq20 : (V8 0 50).toInt = ((V 0 50)).toInt := congrArg Int32.toInt (ajV8 0 50 rfl)
    refine gA_void (gA_runV (As := []) (rest := []) (ci := 12) (q0 := 0) hx hb hml hown hg hP hD hK hS hA hnw hgk (hk_s_expressionA H.size ad kk V8 L (bq) (gn) (gT) ((nx gs 1)) (gl) (gd) hMV8 rl12 (show (V8 0 48).toInt ≤ 2 * (V8 0 7).toInt from by omega) (show (V8 0 50).toInt = ((gd) : Int) from by omega) (show (V8 0 50).toInt + (dd : Int) = 8 from by omega) (EM.mv em (ajV8 0 51 rfl) (ajV8 0 52 rfl) (by rw [(funext (fun q => ajV8 27 q rfl) : V8 27 = V 27)] : V8 27 = V 27) ((keepS.tr (keepS.rf : keepS gs 0 gs) (keepS.n1 1))).2.1)) w2116 w2118 w106 w172 w2119 rfl rfl hdV_yX12_expression ⟨(by show 10 * dd + 13 + 1 ≤ 10 * dd + 14; omega), (by show 8 + (3 + 11) + (300 * dd + 420) ≤ 300 * dd + 460; omega)⟩ rfl hl.1 rfl (Nat.le_of_ble_eq_true rfl) dX12_bracketed_7 ⟨Nat.le_of_ble_eq_true rfl, Nat.le_of_ble_eq_true rfl⟩) hP hD hK hS hA (fun u22 H locs w23 hP hD hK hS => ?_)
    obtain ⟨V29, L30⟩ := u22
    obtain ⟨hMV29, ajV29, axL30, t24, t25, t26, t27, t28⟩ := w23
    have alL30 : agL [35, 36, 37, 38, 45, 46, 47] L L30 := agL.tr alL axL30 (by decide)
    have hP : va_P D vwCl (mw ad kk ks.1 V29 L30) H := hP
    have hD : va_D A (mw ad kk ks.1 V29 L30) := hD
    have hMV29 : rgd bM V29 := hMV29
    have ajV29 : agr [(0, 7), (0, 8), (0, 48), (0, 50)] [35, 36, 37, 38, 45, 46, 47] V8 V29 := ajV29
    have agV29 : agr [(0, 7), (0, 8), (0, 48), (0, 50)] [35, 36, 37, 38, 45, 46, 47] V V29 := agV8.tr ajV29 (by decide) (by decide)
    have t24 : Imp ((V29 0 8).toInt = 0) ((V29 0 48).toInt - (V8 0 48).toInt ≤ 2 * ((V29 0 7).toInt - (V8 0 7).toInt)) := t24
    have t25 : (V29 0 48).toInt ≤ 8051 - 6 * (V8 0 50).toInt := t25
    have t26 : (V29 0 50).toInt = (V8 0 50).toInt := t26
    have t27 : (V8 0 48).toInt ≤ (V29 0 48).toInt := t27
    have t28 : RdM (gT) ((nx gs 1)) (fun k => Iexpr (gd) :: k) (fun k => k) (V29 0 8).toInt (fun s9 => RelM V29 L30 (bq) (gn) (gT) s9 (gl) ∧ keepS ((nx gs 1)) 1 s9) := t28
    have r31 : 0 ≤ ((V29 0 48)).toInt ∧ ((V29 0 48)).toInt ≤ 10000 := hMV29 0 48
    have r32 : 0 ≤ ((V29 0 8)).toInt ∧ ((V29 0 8)).toInt ≤ 70000 := hMV29 0 8
    have r33 : 0 ≤ ((V29 0 50)).toInt ∧ ((V29 0 50)).toInt ≤ 9 := hMV29 0 50
    rcases t28 with ⟨q34, sx35, h36, rl37, kp38⟩ | ⟨q34, h36⟩
    · skip
      have hr39 : ∀ k, Rc gT (Crun gs (Itake 40 :: Iexpr gd :: Itake 41 :: k)) (Crun sx35 (Itake 41 :: k)) := fun k => (hr15 k).tr (h36 (Itake 41 :: k))
      have fz40 := RelM.rg rl37
      have ps41 := (kp38).1
      refine lv_aload_n hx hb dX12_bracketed_10 rfl (lv_at hl 0 rfl) ?_
      refine lv_bipush (v := 41) hx hb dX12_bracketed_11 (by decide) ?_
      have r42 : Int32.toInt 41 = 41 := by decide
      refine gA_void (gA_runV (As := [.int 41]) (rest := []) (ci := 12) (q0 := 0) hx hb hml hown hg hP hD hK hS hA hnw hgk (s_takeSignA l D ks H.size ad kk V29 L30 41 (bq) (gn) (gT) (sx35) (gl) hMV29 rl37 (sg_yes (j := 41) (by decide) (by decide) (by decide))) w2075 w2077 w96 w172 w2078 rfl rfl hdV_yX12_takeSign ⟨(by show 1 + 1 ≤ 10 * dd + 14; omega), (by show 8 + (2 + 11) + (21) ≤ 300 * dd + 460; omega)⟩ rfl hl.1 rfl (Nat.le_of_ble_eq_true rfl) dX12_bracketed_13 ⟨Nat.le_of_ble_eq_true rfl, Nat.le_of_ble_eq_true rfl⟩) hP hD hK hS hA (fun u44 H locs w45 hP hD hK hS => ?_)
      obtain ⟨V47, L48⟩ := u44
      obtain ⟨hMV47, ajV47, axL48, t46⟩ := w45
      have axL48 : L30 = L48 := Eq.symm axL48
      subst axL48
      have hP : va_P D vwCl (mw ad kk ks.1 V47 L30) H := hP
      have hD : va_D A (mw ad kk ks.1 V47 L30) := hD
      have hMV47 : rgd bM V47 := hMV47
      have ajV47 : agr [(0, 7), (0, 8)] [] V29 V47 := ajV47
      have agV47 : agr [(0, 7), (0, 8), (0, 48), (0, 50)] [35, 36, 37, 38, 45, 46, 47] V V47 := agV29.tr ajV47 (by decide) (by decide)
      have t46 : ((V47 0 8).toInt = 0 ∧ (gT).1 ((sx35).1 0) = (Int32.toInt 41) ∧ RelM V47 L30 (bq) (gn) (gT) (nx (sx35) 1) (gl)) ∨ (1 ≤ (V47 0 8).toInt ∧ (gT).1 ((sx35).1 0) ≠ (Int32.toInt 41) ∧ (V47 0 8).toInt = 1 + 16 * (gT).2.2 ((sx35).1 0)) := t46
      rcases t46 with ⟨q49, h50, rl51⟩ | ⟨q49, h50, rl51⟩
      · skip
        have kd52 : gT.1 (sx35.1 0) = 41 := h50.trans (by decide)
        have hr53 : ∀ k, Rc gT (Crun gs (Itake 40 :: Iexpr gd :: Itake 41 :: k)) (Crun (nx sx35 1) (k)) := fun k => Rc.go1 (hr39 k) (tk_y kd52)
        have ps54 : (nx sx35 1).1 0 = sx35.1 0 + 1 := rfl
        have fz55 := RelM.rg rl51
        have r56 : 0 ≤ ((V47 0 8)).toInt ∧ ((V47 0 8)).toInt ≤ 70000 := hMV47 0 8
        have pq57 : (V47 0 48).toInt = ((V29 0 48)).toInt := congrArg Int32.toInt (ajV47 0 48 rfl)
        have pq58 : (V47 0 50).toInt = ((V29 0 50)).toInt := congrArg Int32.toInt (ajV47 0 50 rfl)
        exact W.vret hx hb hr (fun t ht hW => ⟨⟨(V47, L30), rfl, ⟨hMV47, agV47, alL30, (Imp.mk (fun hp => have hp : (V47 0 8).toInt = 0 := hp; (show (V47 0 48).toInt - (V 0 48).toInt ≤ 2 * ((V47 0 7).toInt - (V 0 7).toInt) from by first | omega | ((try (have i_t24 := Imp.go t24 (by omega))); omega)))), (show (V47 0 48).toInt ≤ 8052 - 6 * (V 0 50).toInt from by first | omega | ((try (have i_t24 := Imp.go t24 (by omega))); omega)), (show (V47 0 50).toInt = (V 0 50).toInt from by first | omega | ((try (have i_t24 := Imp.go t24 (by omega))); omega)), (show (V 0 48).toInt ≤ (V47 0 48).toInt from by first | omega | ((try (have i_t24 := Imp.go t24 (by omega))); omega)), (Or.inl ⟨W0 rl51, (nx sx35 1), hr53, rl51, keepS.le (keepS.tr (keepS.tr (keepS.tr (keepS.rf : keepS gs 0 gs) (keepS.n1 1)) kp38) (keepS.n1 1)) (by decide)⟩)⟩, by rw [ht]; exact hP, va_K.moved hW.alike hK, hD⟩, hS.F ht⟩) hS.2.2 dX12_bracketed_16
      · skip
        have kd59 : gT.1 (sx35.1 0) ≠ 41 := fun h9 => h50 (h9.trans (by decide))
        have hb60 : ∀ k, Rc gT (Crun gs (Itake 40 :: Iexpr gd :: Itake 41 :: k)) (Cbad (V47 0 8).toInt) := fun k => Rc.go1 (hr39 k) ((tk_n kd59).trans (fl_eq rfl rl51))
        have r61 : 0 ≤ ((V47 0 8)).toInt ∧ ((V47 0 8)).toInt ≤ 70000 := hMV47 0 8
        have pq62 : (V47 0 48).toInt = ((V29 0 48)).toInt := congrArg Int32.toInt (ajV47 0 48 rfl)
        have pq63 : (V47 0 50).toInt = ((V29 0 50)).toInt := congrArg Int32.toInt (ajV47 0 50 rfl)
        exact W.vret hx hb hr (fun t ht hW => ⟨⟨(V47, L30), rfl, ⟨hMV47, agV47, alL30, (Imp.mk (fun hp => have hp : (V47 0 8).toInt = 0 := hp; (show (V47 0 48).toInt - (V 0 48).toInt ≤ 2 * ((V47 0 7).toInt - (V 0 7).toInt) from by first | omega | ((try (have i_t24 := Imp.go t24 (by omega))); omega)))), (show (V47 0 48).toInt ≤ 8052 - 6 * (V 0 50).toInt from by first | omega | ((try (have i_t24 := Imp.go t24 (by omega))); omega)), (show (V47 0 50).toInt = (V 0 50).toInt from by first | omega | ((try (have i_t24 := Imp.go t24 (by omega))); omega)), (show (V 0 48).toInt ≤ (V47 0 48).toInt from by first | omega | ((try (have i_t24 := Imp.go t24 (by omega))); omega)), (Or.inr ⟨(show 1 ≤ (V47 0 8).toInt from by omega), hb60⟩)⟩, by rw [ht]; exact hP, va_K.moved hW.alike hK, hD⟩, hS.F ht⟩) hS.2.2 dX12_bracketed_16
    · skip
      have hb64 : ∀ k, Rc gT (Crun gs (Itake 40 :: Iexpr gd :: Itake 41 :: k)) (Cbad (V29 0 8).toInt) := fun k => (hr15 k).tr (h36 (Itake 41 :: k))
      refine lv_aload_n hx hb dX12_bracketed_10 rfl (lv_at hl 0 rfl) ?_
      refine lv_bipush (v := 41) hx hb dX12_bracketed_11 (by decide) ?_
      have r65 : Int32.toInt 41 = 41 := by decide
      refine gA_void (gA_runV (As := [.int 41]) (rest := []) (ci := 12) (q0 := 0) hx hb hml hown hg hP hD hK hS hA hnw hgk (s_takeSignB l D ks H.size ad kk V29 L30 41 hMV29 (show 1 ≤ (V29 0 8).toInt from by first | omega | ((try (have i_t24 := Imp.go t24 (by omega))); omega))) w2075 w2077 w96 w172 w2078 rfl rfl hdV_yX12_takeSign ⟨(by show 1 + 1 ≤ 10 * dd + 14; omega), (by show 8 + (2 + 11) + (21) ≤ 300 * dd + 460; omega)⟩ rfl hl.1 rfl (Nat.le_of_ble_eq_true rfl) dX12_bracketed_13 ⟨Nat.le_of_ble_eq_true rfl, Nat.le_of_ble_eq_true rfl⟩) hP hD hK hS hA (fun u67 H locs w68 hP hD hK hS => ?_)
      obtain ⟨V70, L71⟩ := u67
      obtain ⟨hMV70, ajV70, axL71, t69⟩ := w68
      have axL71 : L30 = L71 := Eq.symm axL71
      subst axL71
      have hP : va_P D vwCl (mw ad kk ks.1 V70 L30) H := hP
      have hD : va_D A (mw ad kk ks.1 V70 L30) := hD
      have hMV70 : rgd bM V70 := hMV70
      have ajV70 : agr [(0, 7), (0, 8)] [] V29 V70 := ajV70
      have agV70 : agr [(0, 7), (0, 8), (0, 48), (0, 50)] [35, 36, 37, 38, 45, 46, 47] V V70 := agV29.tr ajV70 (by decide) (by decide)
      have t69 : (V70 0 8).toInt = (V29 0 8).toInt := t69
      have r72 : 0 ≤ ((V70 0 8)).toInt ∧ ((V70 0 8)).toInt ≤ 70000 := hMV70 0 8
      have pq73 : (V70 0 48).toInt = ((V29 0 48)).toInt := congrArg Int32.toInt (ajV70 0 48 rfl)
      have pq74 : (V70 0 50).toInt = ((V29 0 50)).toInt := congrArg Int32.toInt (ajV70 0 50 rfl)
      exact W.vret hx hb hr (fun t ht hW => ⟨⟨(V70, L30), rfl, ⟨hMV70, agV70, alL30, (Imp.mk (fun hp => have hp : (V70 0 8).toInt = 0 := hp; (show (V70 0 48).toInt - (V 0 48).toInt ≤ 2 * ((V70 0 7).toInt - (V 0 7).toInt) from by first | omega | ((try (have i_t24 := Imp.go t24 (by omega))); omega)))), (show (V70 0 48).toInt ≤ 8052 - 6 * (V 0 50).toInt from by first | omega | ((try (have i_t24 := Imp.go t24 (by omega))); omega)), (show (V70 0 50).toInt = (V 0 50).toInt from by first | omega | ((try (have i_t24 := Imp.go t24 (by omega))); omega)), (show (V 0 48).toInt ≤ (V70 0 48).toInt from by first | omega | ((try (have i_t24 := Imp.go t24 (by omega))); omega)), (Or.inr ⟨(show 1 ≤ (V70 0 8).toInt from by omega), (fun k => by rw [show (V70 0 8).toInt = (V29 0 8).toInt from by omega]; exact hb64 k)⟩)⟩, by rw [ht]; exact hP, va_K.moved hW.alike hK, hD⟩, hS.F ht⟩) hS.2.2 dX12_bracketed_16
  · skip
    have kd75 : gT.1 (gs.1 0) ≠ 40 := fun h9 => h11 (h9.trans (by decide))
    have hb76 : ∀ k, Rc gT (Crun gs (Itake 40 :: Iexpr gd :: Itake 41 :: k)) (Cbad (V8 0 8).toInt) := fun k => Rc.go1 (hr13 k) ((tk_n kd75).trans (fl_eq rfl rl12))
    have r77 : 0 ≤ ((V8 0 8)).toInt ∧ ((V8 0 8)).toInt ≤ 70000 := hMV8 0 8
    refine lv_aload_n hx hb dX12_bracketed_6 rfl (lv_at hl 0 rfl) ?_
    have pq78 : (V8 0 50).toInt = ((V 0 50)).toInt := congrArg Int32.toInt (ajV8 0 50 rfl)
    refine gA_void (gA_runV (As := []) (rest := []) (ci := 12) (q0 := 0) hx hb hml hown hg hP hD hK hS hA hnw hgk (s_expressionB l D ks H.size ad kk V8 L  hMV8 (show 1 ≤ (V8 0 8).toInt from by omega) (show (V8 0 50).toInt ≤ 8 from by omega)) w2116 w2118 w106 w172 w2119 rfl rfl hdV_yX12_expression ⟨(by show 4 + 1 ≤ 10 * dd + 14; omega), (by show 8 + (3 + 11) + (86) ≤ 300 * dd + 460; omega)⟩ rfl hl.1 rfl (Nat.le_of_ble_eq_true rfl) dX12_bracketed_7 ⟨Nat.le_of_ble_eq_true rfl, Nat.le_of_ble_eq_true rfl⟩) hP hD hK hS hA (fun u80 H locs w81 hP hD hK hS => ?_)
    obtain ⟨V85, L86⟩ := u80
    obtain ⟨hMV85, ajV85, axL86, t82, t83, t84⟩ := w81
    have alL86 : agL [35, 36, 37, 38, 45, 46, 47] L L86 := agL.tr alL axL86 (by decide)
    have hP : va_P D vwCl (mw ad kk ks.1 V85 L86) H := hP
    have hD : va_D A (mw ad kk ks.1 V85 L86) := hD
    have hMV85 : rgd bM V85 := hMV85
    have ajV85 : agr [(0, 7), (0, 8), (0, 48), (0, 50)] [35, 36, 37, 38, 45, 46, 47] V8 V85 := ajV85
    have agV85 : agr [(0, 7), (0, 8), (0, 48), (0, 50)] [35, 36, 37, 38, 45, 46, 47] V V85 := agV8.tr ajV85 (by decide) (by decide)
    have t82 : (V85 0 48).toInt = (V8 0 48).toInt := t82
    have t83 : (V85 0 50).toInt = (V8 0 50).toInt := t83
    have t84 : (V85 0 8).toInt = (V8 0 8).toInt := t84
    have pq87 : (V8 0 48).toInt = ((V 0 48)).toInt := congrArg Int32.toInt (ajV8 0 48 rfl)
    have r88 : 0 ≤ ((V85 0 48)).toInt ∧ ((V85 0 48)).toInt ≤ 10000 := hMV85 0 48
    have r89 : 0 ≤ ((V85 0 50)).toInt ∧ ((V85 0 50)).toInt ≤ 9 := hMV85 0 50
    have r90 : 0 ≤ ((V85 0 8)).toInt ∧ ((V85 0 8)).toInt ≤ 70000 := hMV85 0 8
    refine lv_aload_n hx hb dX12_bracketed_10 rfl (lv_at hl 0 rfl) ?_
    refine lv_bipush (v := 41) hx hb dX12_bracketed_11 (by decide) ?_
    have r91 : Int32.toInt 41 = 41 := by decide
    refine gA_void (gA_runV (As := [.int 41]) (rest := []) (ci := 12) (q0 := 0) hx hb hml hown hg hP hD hK hS hA hnw hgk (s_takeSignB l D ks H.size ad kk V85 L86 41 hMV85 (show 1 ≤ (V85 0 8).toInt from by omega)) w2075 w2077 w96 w172 w2078 rfl rfl hdV_yX12_takeSign ⟨(by show 1 + 1 ≤ 10 * dd + 14; omega), (by show 8 + (2 + 11) + (21) ≤ 300 * dd + 460; omega)⟩ rfl hl.1 rfl (Nat.le_of_ble_eq_true rfl) dX12_bracketed_13 ⟨Nat.le_of_ble_eq_true rfl, Nat.le_of_ble_eq_true rfl⟩) hP hD hK hS hA (fun u93 H locs w94 hP hD hK hS => ?_)
    obtain ⟨V96, L97⟩ := u93
    obtain ⟨hMV96, ajV96, axL97, t95⟩ := w94
    have axL97 : L86 = L97 := Eq.symm axL97
    subst axL97
    have hP : va_P D vwCl (mw ad kk ks.1 V96 L86) H := hP
    have hD : va_D A (mw ad kk ks.1 V96 L86) := hD
    have hMV96 : rgd bM V96 := hMV96
    have ajV96 : agr [(0, 7), (0, 8)] [] V85 V96 := ajV96
    have agV96 : agr [(0, 7), (0, 8), (0, 48), (0, 50)] [35, 36, 37, 38, 45, 46, 47] V V96 := agV85.tr ajV96 (by decide) (by decide)
    have t95 : (V96 0 8).toInt = (V85 0 8).toInt := t95
    have r98 : 0 ≤ ((V96 0 8)).toInt ∧ ((V96 0 8)).toInt ≤ 70000 := hMV96 0 8
    have pq99 : (V96 0 48).toInt = ((V85 0 48)).toInt := congrArg Int32.toInt (ajV96 0 48 rfl)
    have pq100 : (V96 0 50).toInt = ((V85 0 50)).toInt := congrArg Int32.toInt (ajV96 0 50 rfl)
    exact W.vret hx hb hr (fun t ht hW => ⟨⟨(V96, L86), rfl, ⟨hMV96, agV96, alL86, (Imp.mk (fun hp => have hp : (V96 0 8).toInt = 0 := hp; (show (V96 0 48).toInt - (V 0 48).toInt ≤ 2 * ((V96 0 7).toInt - (V 0 7).toInt) from by omega))), (show (V96 0 48).toInt ≤ 8052 - 6 * (V 0 50).toInt from by omega), (show (V96 0 50).toInt = (V 0 50).toInt from by omega), (show (V 0 48).toInt ≤ (V96 0 48).toInt from by omega), (Or.inr ⟨(show 1 ≤ (V96 0 8).toInt from by omega), (fun k => by rw [show (V96 0 8).toInt = (V8 0 8).toInt from by omega]; exact hb76 k)⟩)⟩, by rw [ht]; exact hP, va_K.moved hW.alike hK, hD⟩, hS.F ht⟩) hS.2.2 dX12_bracketed_16
set_option maxHeartbeats 4000000 in
set_option maxRecDepth 100000 in
theorem s_pickA {l : Launch} {D : va_G} {ks : KS} {dd : Nat} (hk_s_expressionA : K_s_expressionA l D ks dd) : K_s_pickA l D ks dd := by
  intro sz ad kk V L  bq gn gT gs gl gd hMV rel c1 yd c4 em
  refine g_met (q_s_pickA D ks ad kk V L  bq gn gT gs gl gd) (by decide) (Nat.le_of_ble_eq_true rfl) ?_
  intro p e s m below meth c A ls H locs hx hb hr hml hown hg hlocks hin hnw hgk hP hK hD hS hA hl
  have hown : s.vm.findClass RX12 = some m.cls := hown
  have hl : lv_has ls 3 [(0, .ref (ad 0))] := hl
  have hP : va_P D vwCl (mw ad kk ks.1 V L) H := hP
  have hD : va_D A (mw ad kk ks.1 V L) := hD
  have hK : va_K D vwCl (mty kk) s := hK
  have agV : agr [(0, 7), (0, 8), (0, 48), (0, 50)] [35, 36, 37, 38, 45, 46, 47] V V := agr.rf
  have alL : agL [35, 36, 37, 38, 45, 46, 47] L L := agL.rf
  have r1 : 0 ≤ ((V 0 48)).toInt ∧ ((V 0 48)).toInt ≤ 10000 := hMV 0 48
  have r2 : 0 ≤ ((V 0 50)).toInt ∧ ((V 0 50)).toInt ≤ 9 := hMV 0 50
  have rg0 := RelM.rg rel
  have cl0 := RelM.cl rel
  have cq0 := RelM.cq rel
  refine lv_aload_n hx hb dX12_pick_0 rfl (lv_at hl 0 rfl) ?_
  refine lv_bipush (v := 40) hx hb dX12_pick_1 (by decide) ?_
  have r3 : Int32.toInt 40 = 40 := by decide
  refine gA_void (gA_runV (As := [.int 40]) (rest := []) (ci := 12) (q0 := 0) hx hb hml hown hg hP hD hK hS hA hnw hgk (s_takeSignA l D ks H.size ad kk V L 40 (bq) (gn) (gT) (gs) (gl) hMV rel (sg_yes (j := 40) (by decide) (by decide) (by decide))) w2075 w2077 w96 w172 w2078 rfl rfl hdV_yX12_takeSign ⟨(by show 1 + 1 ≤ 10 * dd + 14; omega), (by show 8 + (2 + 11) + (21) ≤ 300 * dd + 460; omega)⟩ rfl hl.1 rfl (Nat.le_of_ble_eq_true rfl) dX12_pick_3 ⟨Nat.le_of_ble_eq_true rfl, Nat.le_of_ble_eq_true rfl⟩) hP hD hK hS hA (fun u5 H locs w6 hP hD hK hS => ?_)
  obtain ⟨V8, L9⟩ := u5
  obtain ⟨hMV8, ajV8, axL9, t7⟩ := w6
  have axL9 : L = L9 := Eq.symm axL9
  subst axL9
  have hP : va_P D vwCl (mw ad kk ks.1 V8 L) H := hP
  have hD : va_D A (mw ad kk ks.1 V8 L) := hD
  have hMV8 : rgd bM V8 := hMV8
  have ajV8 : agr [(0, 7), (0, 8)] [] V V8 := ajV8
  have agV8 : agr [(0, 7), (0, 8), (0, 48), (0, 50)] [35, 36, 37, 38, 45, 46, 47] V V8 := agV.tr ajV8 (by decide) (by decide)
  have t7 : ((V8 0 8).toInt = 0 ∧ (gT).1 ((gs).1 0) = (Int32.toInt 40) ∧ RelM V8 L (bq) (gn) (gT) (nx (gs) 1) (gl)) ∨ (1 ≤ (V8 0 8).toInt ∧ (gT).1 ((gs).1 0) ≠ (Int32.toInt 40) ∧ (V8 0 8).toInt = 1 + 16 * (gT).2.2 ((gs).1 0)) := t7
  have hr13 : ∀ k, Rc gT (Crun gs (Itake 40 :: Iexpr gd :: Itake 44 :: Iexpr gd :: Itake 44 :: Iexpr gd :: Itake 41 :: k)) (Crun gs (Itake 40 :: Iexpr gd :: Itake 44 :: Iexpr gd :: Itake 44 :: Iexpr gd :: Itake 41 :: k)) := fun k => Rc.rf
  rcases t7 with ⟨q10, h11, rl12⟩ | ⟨q10, h11, rl12⟩
  · skip
    have kd14 : gT.1 (gs.1 0) = 40 := h11.trans (by decide)
    have hr15 : ∀ k, Rc gT (Crun gs (Itake 40 :: Iexpr gd :: Itake 44 :: Iexpr gd :: Itake 44 :: Iexpr gd :: Itake 41 :: k)) (Crun (nx gs 1) (Iexpr gd :: Itake 44 :: Iexpr gd :: Itake 44 :: Iexpr gd :: Itake 41 :: k)) := fun k => Rc.go1 (hr13 k) (tk_y kd14)
    have ps16 : (nx gs 1).1 0 = gs.1 0 + 1 := rfl
    have fz17 := RelM.rg rl12
    have r18 : 0 ≤ ((V8 0 8)).toInt ∧ ((V8 0 8)).toInt ≤ 70000 := hMV8 0 8
    refine lv_aload_n hx hb dX12_pick_6 rfl (lv_at hl 0 rfl) ?_
    have pq19 : (V8 0 48).toInt = ((V 0 48)).toInt := congrArg Int32.toInt (ajV8 0 48 rfl)
    have pq20 : (V8 0 50).toInt = ((V 0 50)).toInt := congrArg Int32.toInt (ajV8 0 50 rfl)
    refine gA_void (gA_runV (As := []) (rest := []) (ci := 12) (q0 := 0) hx hb hml hown hg hP hD hK hS hA hnw hgk (hk_s_expressionA H.size ad kk V8 L (bq) (gn) (gT) ((nx gs 1)) (gl) (gd) hMV8 rl12 (show (V8 0 48).toInt ≤ 2 * (V8 0 7).toInt from by omega) (show (V8 0 50).toInt = ((gd) : Int) from by omega) (show (V8 0 50).toInt + (dd : Int) = 8 from by omega) (EM.mv em (ajV8 0 51 rfl) (ajV8 0 52 rfl) (by rw [(funext (fun q => ajV8 27 q rfl) : V8 27 = V 27)] : V8 27 = V 27) ((keepS.tr (keepS.rf : keepS gs 0 gs) (keepS.n1 1))).2.1)) w2116 w2118 w106 w172 w2119 rfl rfl hdV_yX12_expression ⟨(by show 10 * dd + 13 + 1 ≤ 10 * dd + 14; omega), (by show 8 + (3 + 11) + (300 * dd + 420) ≤ 300 * dd + 460; omega)⟩ rfl hl.1 rfl (Nat.le_of_ble_eq_true rfl) dX12_pick_7 ⟨Nat.le_of_ble_eq_true rfl, Nat.le_of_ble_eq_true rfl⟩) hP hD hK hS hA (fun u22 H locs w23 hP hD hK hS => ?_)
    obtain ⟨V29, L30⟩ := u22
    obtain ⟨hMV29, ajV29, axL30, t24, t25, t26, t27, t28⟩ := w23
    have alL30 : agL [35, 36, 37, 38, 45, 46, 47] L L30 := agL.tr alL axL30 (by decide)
    have hP : va_P D vwCl (mw ad kk ks.1 V29 L30) H := hP
    have hD : va_D A (mw ad kk ks.1 V29 L30) := hD
    have hMV29 : rgd bM V29 := hMV29
    have ajV29 : agr [(0, 7), (0, 8), (0, 48), (0, 50)] [35, 36, 37, 38, 45, 46, 47] V8 V29 := ajV29
    have agV29 : agr [(0, 7), (0, 8), (0, 48), (0, 50)] [35, 36, 37, 38, 45, 46, 47] V V29 := agV8.tr ajV29 (by decide) (by decide)
    have t24 : Imp ((V29 0 8).toInt = 0) ((V29 0 48).toInt - (V8 0 48).toInt ≤ 2 * ((V29 0 7).toInt - (V8 0 7).toInt)) := t24
    have t25 : (V29 0 48).toInt ≤ 8051 - 6 * (V8 0 50).toInt := t25
    have t26 : (V29 0 50).toInt = (V8 0 50).toInt := t26
    have t27 : (V8 0 48).toInt ≤ (V29 0 48).toInt := t27
    have t28 : RdM (gT) ((nx gs 1)) (fun k => Iexpr (gd) :: k) (fun k => k) (V29 0 8).toInt (fun s9 => RelM V29 L30 (bq) (gn) (gT) s9 (gl) ∧ keepS ((nx gs 1)) 1 s9) := t28
    have r31 : 0 ≤ ((V29 0 48)).toInt ∧ ((V29 0 48)).toInt ≤ 10000 := hMV29 0 48
    have r32 : 0 ≤ ((V29 0 8)).toInt ∧ ((V29 0 8)).toInt ≤ 70000 := hMV29 0 8
    have r33 : 0 ≤ ((V29 0 50)).toInt ∧ ((V29 0 50)).toInt ≤ 9 := hMV29 0 50
    rcases t28 with ⟨q34, sx35, h36, rl37, kp38⟩ | ⟨q34, h36⟩
    · skip
      have hr39 : ∀ k, Rc gT (Crun gs (Itake 40 :: Iexpr gd :: Itake 44 :: Iexpr gd :: Itake 44 :: Iexpr gd :: Itake 41 :: k)) (Crun sx35 (Itake 44 :: Iexpr gd :: Itake 44 :: Iexpr gd :: Itake 41 :: k)) := fun k => (hr15 k).tr (h36 (Itake 44 :: Iexpr gd :: Itake 44 :: Iexpr gd :: Itake 41 :: k))
      have fz40 := RelM.rg rl37
      have ps41 := (kp38).1
      refine lv_aload_n hx hb dX12_pick_10 rfl (lv_at hl 0 rfl) ?_
      refine lv_bipush (v := 44) hx hb dX12_pick_11 (by decide) ?_
      have r42 : Int32.toInt 44 = 44 := by decide
      refine gA_void (gA_runV (As := [.int 44]) (rest := []) (ci := 12) (q0 := 0) hx hb hml hown hg hP hD hK hS hA hnw hgk (s_takeSignA l D ks H.size ad kk V29 L30 44 (bq) (gn) (gT) (sx35) (gl) hMV29 rl37 (sg_yes (j := 44) (by decide) (by decide) (by decide))) w2075 w2077 w96 w172 w2078 rfl rfl hdV_yX12_takeSign ⟨(by show 1 + 1 ≤ 10 * dd + 14; omega), (by show 8 + (2 + 11) + (21) ≤ 300 * dd + 460; omega)⟩ rfl hl.1 rfl (Nat.le_of_ble_eq_true rfl) dX12_pick_13 ⟨Nat.le_of_ble_eq_true rfl, Nat.le_of_ble_eq_true rfl⟩) hP hD hK hS hA (fun u44 H locs w45 hP hD hK hS => ?_)
      obtain ⟨V47, L48⟩ := u44
      obtain ⟨hMV47, ajV47, axL48, t46⟩ := w45
      have axL48 : L30 = L48 := Eq.symm axL48
      subst axL48
      have hP : va_P D vwCl (mw ad kk ks.1 V47 L30) H := hP
      have hD : va_D A (mw ad kk ks.1 V47 L30) := hD
      have hMV47 : rgd bM V47 := hMV47
      have ajV47 : agr [(0, 7), (0, 8)] [] V29 V47 := ajV47
      have agV47 : agr [(0, 7), (0, 8), (0, 48), (0, 50)] [35, 36, 37, 38, 45, 46, 47] V V47 := agV29.tr ajV47 (by decide) (by decide)
      have t46 : ((V47 0 8).toInt = 0 ∧ (gT).1 ((sx35).1 0) = (Int32.toInt 44) ∧ RelM V47 L30 (bq) (gn) (gT) (nx (sx35) 1) (gl)) ∨ (1 ≤ (V47 0 8).toInt ∧ (gT).1 ((sx35).1 0) ≠ (Int32.toInt 44) ∧ (V47 0 8).toInt = 1 + 16 * (gT).2.2 ((sx35).1 0)) := t46
      rcases t46 with ⟨q49, h50, rl51⟩ | ⟨q49, h50, rl51⟩
      · skip
        have kd52 : gT.1 (sx35.1 0) = 44 := h50.trans (by decide)
        have hr53 : ∀ k, Rc gT (Crun gs (Itake 40 :: Iexpr gd :: Itake 44 :: Iexpr gd :: Itake 44 :: Iexpr gd :: Itake 41 :: k)) (Crun (nx sx35 1) (Iexpr gd :: Itake 44 :: Iexpr gd :: Itake 41 :: k)) := fun k => Rc.go1 (hr39 k) (tk_y kd52)
        have ps54 : (nx sx35 1).1 0 = sx35.1 0 + 1 := rfl
        have fz55 := RelM.rg rl51
        have r56 : 0 ≤ ((V47 0 8)).toInt ∧ ((V47 0 8)).toInt ≤ 70000 := hMV47 0 8
        refine lv_aload_n hx hb dX12_pick_16 rfl (lv_at hl 0 rfl) ?_
        refine lv_bipush (v := 12) hx hb dX12_pick_17 (by decide) ?_
        refine lv_iconst (v := 0) hx hb dX12_pick_19 (by decide) ?_
        refine lv_iconst (v := 0) hx hb dX12_pick_20 (by decide) ?_
        have r57 : Int32.toInt 12 = 12 := by decide
        have r58 : Int32.toInt 0 = 0 := by decide
        have pq59 : (V47 0 48).toInt = ((V29 0 48)).toInt := congrArg Int32.toInt (ajV47 0 48 rfl)
        refine gA_int (gA_runV (As := [.int 12, .int 0, .int 0]) (rest := []) (ci := 12) (q0 := 0) hx hb hml hown hg hP hD hK hS hA hnw hgk (s_emit3 l D ks H.size ad kk V47 L30 12 0 0 hMV47 (show (V47 0 48).toInt ≤ 9999 from by first | omega | ((try (have i_t24 := Imp.go t24 (by omega))); omega))) w2136 w2138 w111 w172 w2139 rfl rfl hdV_yX12_emit ⟨(by show 0 + 1 ≤ 10 * dd + 14; omega), (by show 8 + (4 + 11) + (0) ≤ 300 * dd + 460; omega)⟩ rfl hl.1 rfl (Nat.le_of_ble_eq_true rfl) dX12_pick_21 ⟨Nat.le_of_ble_eq_true rfl, Nat.le_of_ble_eq_true rfl⟩) hP hD hK hS hA (fun z60 u61 H locs w62 hP hD hK hS => ?_)
        obtain ⟨V66, L67⟩ := u61
        obtain ⟨hMV66, ajV66, axL67, rgz60, t63, t64, t65⟩ := w62
        have axL67 : L30 = L67 := Eq.symm axL67
        subst axL67
        have hP : va_P D vwCl (mw ad kk ks.1 V66 L30) H := hP
        have hD : va_D A (mw ad kk ks.1 V66 L30) := hD
        have hMV66 : rgd bM V66 := hMV66
        have ajV66 : agr [(0, 48)] [45, 46, 47] V47 V66 := ajV66
        have agV66 : agr [(0, 7), (0, 8), (0, 48), (0, 50)] [35, 36, 37, 38, 45, 46, 47] V V66 := agV47.tr ajV66 (by decide) (by decide)
        have rgz60 : 0 ≤ z60.toInt ∧ z60.toInt ≤ 20000 := rgz60
        have t63 : (V66 0 48).toInt = (V47 0 48).toInt + 1 := t63
        have t64 : z60.toInt = (V47 0 49).toInt + (V47 0 48).toInt := t64
        have t65 : emitted V47 V66 (pA V47) 12 0 0 := t65
        have r68 : 0 ≤ ((V66 0 48)).toInt ∧ ((V66 0 48)).toInt ≤ 10000 := hMV66 0 48
        have pq69 : (V47 0 49).toInt = ((V 0 49)).toInt := congrArg Int32.toInt ((ajV47 0 49 rfl).trans ((ajV29 0 49 rfl).trans (ajV8 0 49 rfl)))
        have r70 : 0 ≤ ((V 0 49)).toInt ∧ ((V 0 49)).toInt ≤ 10000 := hMV 0 49
        refine lv_istore_n (lv' := [(1, .int z60), (0, .ref (ad 0))]) hx hb dX12_pick_24 rfl hl (by decide) rfl (fun ls hl => ?_)
        refine lv_aload_n hx hb dX12_pick_25 rfl (lv_at hl 1 rfl) ?_
        have rl71 : RelM V66 L30 bq gn gT (nx sx35 1) gl := RelM.ag rl51 (show agr [(0, 48)] [45, 46, 47] V47 V66 from (agr.tr agr.rf ajV66 (by decide) (by decide))) (by decide) (show agL [] L30 L30 from agL.rf) (by decide)
        have pq72 : (V66 0 7).toInt = ((V47 0 7)).toInt := congrArg Int32.toInt (ajV66 0 7 rfl)
        have pq73 : (V66 0 50).toInt = ((V29 0 50)).toInt := congrArg Int32.toInt ((ajV66 0 50 rfl).trans (ajV47 0 50 rfl))
        refine gA_void (gA_runV (As := []) (rest := []) (ci := 12) (q0 := 0) hx hb hml hown hg hP hD hK hS hA hnw hgk (hk_s_expressionA H.size ad kk V66 L30 (bq) (gn) (gT) ((nx sx35 1)) (gl) (gd) hMV66 rl71 (show (V66 0 48).toInt ≤ 2 * (V66 0 7).toInt from by first | omega | ((try (have i_t24 := Imp.go t24 (by omega))); omega)) (show (V66 0 50).toInt = ((gd) : Int) from by first | omega | ((try (have i_t24 := Imp.go t24 (by omega))); omega)) (show (V66 0 50).toInt + (dd : Int) = 8 from by first | omega | ((try (have i_t24 := Imp.go t24 (by omega))); omega)) (EM.mv em ((ajV66 0 51 rfl).trans ((ajV47 0 51 rfl).trans ((ajV29 0 51 rfl).trans (ajV8 0 51 rfl)))) ((ajV66 0 52 rfl).trans ((ajV47 0 52 rfl).trans ((ajV29 0 52 rfl).trans (ajV8 0 52 rfl)))) (by rw [(funext (fun q => ajV66 27 q rfl) : V66 27 = V47 27), (funext (fun q => ajV47 27 q rfl) : V47 27 = V29 27), (funext (fun q => ajV29 27 q rfl) : V29 27 = V8 27), (funext (fun q => ajV8 27 q rfl) : V8 27 = V 27)] : V66 27 = V 27) ((keepS.tr (keepS.tr (keepS.tr (keepS.rf : keepS gs 0 gs) (keepS.n1 1)) kp38) (keepS.n1 1))).2.1)) w2116 w2118 w106 w172 w2119 rfl rfl hdV_yX12_expression ⟨(by show 10 * dd + 13 + 1 ≤ 10 * dd + 14; omega), (by show 8 + (3 + 11) + (300 * dd + 420) ≤ 300 * dd + 460; omega)⟩ rfl hl.1 rfl (Nat.le_of_ble_eq_true rfl) dX12_pick_26 ⟨Nat.le_of_ble_eq_true rfl, Nat.le_of_ble_eq_true rfl⟩) hP hD hK hS hA (fun u75 H locs w76 hP hD hK hS => ?_)
        obtain ⟨V82, L83⟩ := u75
        obtain ⟨hMV82, ajV82, axL83, t77, t78, t79, t80, t81⟩ := w76
        have alL83 : agL [35, 36, 37, 38, 45, 46, 47] L L83 := agL.tr alL30 axL83 (by decide)
        have hP : va_P D vwCl (mw ad kk ks.1 V82 L83) H := hP
        have hD : va_D A (mw ad kk ks.1 V82 L83) := hD
        have hMV82 : rgd bM V82 := hMV82
        have ajV82 : agr [(0, 7), (0, 8), (0, 48), (0, 50)] [35, 36, 37, 38, 45, 46, 47] V66 V82 := ajV82
        have agV82 : agr [(0, 7), (0, 8), (0, 48), (0, 50)] [35, 36, 37, 38, 45, 46, 47] V V82 := agV66.tr ajV82 (by decide) (by decide)
        have t77 : Imp ((V82 0 8).toInt = 0) ((V82 0 48).toInt - (V66 0 48).toInt ≤ 2 * ((V82 0 7).toInt - (V66 0 7).toInt)) := t77
        have t78 : (V82 0 48).toInt ≤ 8051 - 6 * (V66 0 50).toInt := t78
        have t79 : (V82 0 50).toInt = (V66 0 50).toInt := t79
        have t80 : (V66 0 48).toInt ≤ (V82 0 48).toInt := t80
        have t81 : RdM (gT) ((nx sx35 1)) (fun k => Iexpr (gd) :: k) (fun k => k) (V82 0 8).toInt (fun s9 => RelM V82 L83 (bq) (gn) (gT) s9 (gl) ∧ keepS ((nx sx35 1)) 1 s9) := t81
        have r84 : 0 ≤ ((V82 0 48)).toInt ∧ ((V82 0 48)).toInt ≤ 10000 := hMV82 0 48
        have r85 : 0 ≤ ((V82 0 8)).toInt ∧ ((V82 0 8)).toInt ≤ 70000 := hMV82 0 8
        have r86 : 0 ≤ ((V82 0 50)).toInt ∧ ((V82 0 50)).toInt ≤ 9 := hMV82 0 50
        rcases t81 with ⟨q87, sx88, h89, rl90, kp91⟩ | ⟨q87, h89⟩
        · skip
          have hr92 : ∀ k, Rc gT (Crun gs (Itake 40 :: Iexpr gd :: Itake 44 :: Iexpr gd :: Itake 44 :: Iexpr gd :: Itake 41 :: k)) (Crun sx88 (Itake 44 :: Iexpr gd :: Itake 41 :: k)) := fun k => (hr53 k).tr (h89 (Itake 44 :: Iexpr gd :: Itake 41 :: k))
          have fz93 := RelM.rg rl90
          have ps94 := (kp91).1
          refine lv_aload_n hx hb dX12_pick_29 rfl (lv_at hl 1 rfl) ?_
          refine lv_bipush (v := 44) hx hb dX12_pick_30 (by decide) ?_
          refine gA_void (gA_runV (As := [.int 44]) (rest := []) (ci := 12) (q0 := 0) hx hb hml hown hg hP hD hK hS hA hnw hgk (s_takeSignA l D ks H.size ad kk V82 L83 44 (bq) (gn) (gT) (sx88) (gl) hMV82 rl90 (sg_yes (j := 44) (by decide) (by decide) (by decide))) w2075 w2077 w96 w172 w2078 rfl rfl hdV_yX12_takeSign ⟨(by show 1 + 1 ≤ 10 * dd + 14; omega), (by show 8 + (2 + 11) + (21) ≤ 300 * dd + 460; omega)⟩ rfl hl.1 rfl (Nat.le_of_ble_eq_true rfl) dX12_pick_32 ⟨Nat.le_of_ble_eq_true rfl, Nat.le_of_ble_eq_true rfl⟩) hP hD hK hS hA (fun u96 H locs w97 hP hD hK hS => ?_)
          obtain ⟨V99, L100⟩ := u96
          obtain ⟨hMV99, ajV99, axL100, t98⟩ := w97
          have axL100 : L83 = L100 := Eq.symm axL100
          subst axL100
          have hP : va_P D vwCl (mw ad kk ks.1 V99 L83) H := hP
          have hD : va_D A (mw ad kk ks.1 V99 L83) := hD
          have hMV99 : rgd bM V99 := hMV99
          have ajV99 : agr [(0, 7), (0, 8)] [] V82 V99 := ajV99
          have agV99 : agr [(0, 7), (0, 8), (0, 48), (0, 50)] [35, 36, 37, 38, 45, 46, 47] V V99 := agV82.tr ajV99 (by decide) (by decide)
          have t98 : ((V99 0 8).toInt = 0 ∧ (gT).1 ((sx88).1 0) = (Int32.toInt 44) ∧ RelM V99 L83 (bq) (gn) (gT) (nx (sx88) 1) (gl)) ∨ (1 ≤ (V99 0 8).toInt ∧ (gT).1 ((sx88).1 0) ≠ (Int32.toInt 44) ∧ (V99 0 8).toInt = 1 + 16 * (gT).2.2 ((sx88).1 0)) := t98
          rcases t98 with ⟨q101, h102, rl103⟩ | ⟨q101, h102, rl103⟩
          · skip
            have kd104 : gT.1 (sx88.1 0) = 44 := h102.trans (by decide)
            have hr105 : ∀ k, Rc gT (Crun gs (Itake 40 :: Iexpr gd :: Itake 44 :: Iexpr gd :: Itake 44 :: Iexpr gd :: Itake 41 :: k)) (Crun (nx sx88 1) (Iexpr gd :: Itake 41 :: k)) := fun k => Rc.go1 (hr92 k) (tk_y kd104)
            have ps106 : (nx sx88 1).1 0 = sx88.1 0 + 1 := rfl
            have fz107 := RelM.rg rl103
            have r108 : 0 ≤ ((V99 0 8)).toInt ∧ ((V99 0 8)).toInt ≤ 70000 := hMV99 0 8
            refine lv_aload_n hx hb dX12_pick_35 rfl (lv_at hl 1 rfl) ?_
            refine lv_bipush (v := 13) hx hb dX12_pick_36 (by decide) ?_
            refine lv_iconst (v := 0) hx hb dX12_pick_38 (by decide) ?_
            refine lv_iconst (v := 0) hx hb dX12_pick_39 (by decide) ?_
            have r109 : Int32.toInt 13 = 13 := by decide
            have pq110 : (V99 0 48).toInt = ((V82 0 48)).toInt := congrArg Int32.toInt (ajV99 0 48 rfl)
            refine gA_int (gA_runV (As := [.int 13, .int 0, .int 0]) (rest := []) (ci := 12) (q0 := 0) hx hb hml hown hg hP hD hK hS hA hnw hgk (s_emit3 l D ks H.size ad kk V99 L83 13 0 0 hMV99 (show (V99 0 48).toInt ≤ 9999 from by first | omega | ((try (have i_t77 := Imp.go t77 (by omega))); (try (have i_t24 := Imp.go t24 (by omega))); (try (have i_t24 := Imp.go t24 (by omega))); (try (have i_t77 := Imp.go t77 (by omega))); omega))) w2136 w2138 w111 w172 w2139 rfl rfl hdV_yX12_emit ⟨(by show 0 + 1 ≤ 10 * dd + 14; omega), (by show 8 + (4 + 11) + (0) ≤ 300 * dd + 460; omega)⟩ rfl hl.1 rfl (Nat.le_of_ble_eq_true rfl) dX12_pick_40 ⟨Nat.le_of_ble_eq_true rfl, Nat.le_of_ble_eq_true rfl⟩) hP hD hK hS hA (fun z111 u112 H locs w113 hP hD hK hS => ?_)
            obtain ⟨V117, L118⟩ := u112
            obtain ⟨hMV117, ajV117, axL118, rgz111, t114, t115, t116⟩ := w113
            have axL118 : L83 = L118 := Eq.symm axL118
            subst axL118
            have hP : va_P D vwCl (mw ad kk ks.1 V117 L83) H := hP
            have hD : va_D A (mw ad kk ks.1 V117 L83) := hD
            have hMV117 : rgd bM V117 := hMV117
            have ajV117 : agr [(0, 48)] [45, 46, 47] V99 V117 := ajV117
            have agV117 : agr [(0, 7), (0, 8), (0, 48), (0, 50)] [35, 36, 37, 38, 45, 46, 47] V V117 := agV99.tr ajV117 (by decide) (by decide)
            have rgz111 : 0 ≤ z111.toInt ∧ z111.toInt ≤ 20000 := rgz111
            have t114 : (V117 0 48).toInt = (V99 0 48).toInt + 1 := t114
            have t115 : z111.toInt = (V99 0 49).toInt + (V99 0 48).toInt := t115
            have t116 : emitted V99 V117 (pA V99) 13 0 0 := t116
            have r119 : 0 ≤ ((V117 0 48)).toInt ∧ ((V117 0 48)).toInt ≤ 10000 := hMV117 0 48
            have pq120 : (V99 0 49).toInt = ((V 0 49)).toInt := congrArg Int32.toInt ((ajV99 0 49 rfl).trans ((ajV82 0 49 rfl).trans ((ajV66 0 49 rfl).trans ((ajV47 0 49 rfl).trans ((ajV29 0 49 rfl).trans (ajV8 0 49 rfl))))))
            refine lv_istore_n (lv' := [(2, .int z111), (1, .int z60), (0, .ref (ad 0))]) hx hb dX12_pick_43 rfl hl (by decide) rfl (fun ls hl => ?_)
            refine lv_aload_n hx hb dX12_pick_44 rfl (lv_at hl 2 rfl) ?_
            refine va_get (D := D) (ci := 12) (v := .ref (ad 46)) (C := RX12) (T := TX12) (N := 100) hx hb hg inX12 hown hK hP 0 rfl rfl 46 (by decide) (hg _ w1752) (fun _ h9 => h9) rfl dX12_pick_45 ?_
            refine lv_iload_n hx hb dX12_pick_48 rfl (lv_at hl 1 rfl) ?_
            refine lv_aload_n hx hb dX12_pick_49 rfl (lv_at hl 2 rfl) ?_
            refine va_get (D := D) (ci := 12) (v := .int (V117 0 49)) (C := RX12) (T := TX12) (N := 100) hx hb hg inX12 hown hK hP 0 rfl rfl 49 (by decide) (hg _ w1755) (fun _ h9 => h9) rfl dX12_pick_50 ?_
            refine g_top (v := (V 0 49)) ((ajV117 0 49 rfl).trans ((ajV99 0 49 rfl).trans ((ajV82 0 49 rfl).trans ((ajV66 0 49 rfl).trans ((ajV47 0 49 rfl).trans ((ajV29 0 49 rfl).trans (ajV8 0 49 rfl))))))) ?_
            refine lv_aload_n hx hb dX12_pick_53 rfl (lv_at hl 2 rfl) ?_
            refine va_get (D := D) (ci := 12) (v := .int (V117 0 48)) (C := RX12) (T := TX12) (N := 100) hx hb hg inX12 hown hK hP 0 rfl rfl 48 (by decide) (hg _ w1754) (fun _ h9 => h9) rfl dX12_pick_54 ?_
            refine lv_iadd hx hb dX12_pick_57 ?_
            refine lv_topi (fun z121 ez121 => ?_)
            have hz121 : z121.toInt = ((V 0 49)).toInt + ((V117 0 48)).toInt := i_add ez121 rfl rfl (by omega)
            refine va_iast (D := D) (i := z60) (x := z121) hx hb hK hP hD hS 39 38 rfl rfl (i_in (a := z60.toInt) rfl (by first | omega | ((try (have i_t77 := Imp.go t77 (by omega))); (try (have i_t24 := Imp.go t24 (by omega))); (try (have i_t24 := Imp.go t24 (by omega))); (try (have i_t77 := Imp.go t77 (by omega))); omega))) dX12_pick_58 (fun H locs hP hD hS => ?_)
            obtain ⟨V122, hV122⟩ : ∃ z, z = up2 V117 46 (Int32.toNatClampNeg z60) z121 := ⟨_, rfl⟩
            have hP : va_P D vwCl (mw ad kk ks.1 V122 L83) H := by rw [hV122]; exact hP
            have hD : va_D A (mw ad kk ks.1 V122 L83) := by rw [hV122]; exact hD
            have hMV122 : rgd bM V122 := hMV117.put hV122 (i_full _)
            have agV122 : agr [(0, 7), (0, 8), (0, 48), (0, 50)] [35, 36, 37, 38, 45, 46, 47] V V122 := agV117.up hV122 rfl
            refine lv_aload_n hx hb dX12_pick_59 rfl (lv_at hl 2 rfl) ?_
            have rl123 : RelM V122 L83 bq gn gT (nx sx88 1) gl := RelM.ag rl103 (show agr [(0, 48)] [45, 46, 47] V99 V122 from (agr.up (agr.tr agr.rf ajV117 (by decide) (by decide)) hV122 rfl)) (by decide) (show agL [] L83 L83 from agL.rf) (by decide)
            have pq124 : (V122 0 7).toInt = ((V99 0 7)).toInt := congrArg Int32.toInt ((up2_o hV122 (by decide)).trans (ajV117 0 7 rfl))
            have pq125 : (V122 0 48).toInt = ((V117 0 48)).toInt := congrArg Int32.toInt (up2_o hV122 (by decide))
            have pq126 : (V122 0 50).toInt = ((V82 0 50)).toInt := congrArg Int32.toInt ((up2_o hV122 (by decide)).trans ((ajV117 0 50 rfl).trans (ajV99 0 50 rfl)))
            refine gA_void (gA_runV (As := []) (rest := []) (ci := 12) (q0 := 0) hx hb hml hown hg hP hD hK hS hA hnw hgk (hk_s_expressionA H.size ad kk V122 L83 (bq) (gn) (gT) ((nx sx88 1)) (gl) (gd) hMV122 rl123 (show (V122 0 48).toInt ≤ 2 * (V122 0 7).toInt from by first | omega | ((try (have i_t77 := Imp.go t77 (by omega))); (try (have i_t24 := Imp.go t24 (by omega))); (try (have i_t24 := Imp.go t24 (by omega))); (try (have i_t77 := Imp.go t77 (by omega))); omega)) (show (V122 0 50).toInt = ((gd) : Int) from by first | omega | ((try (have i_t77 := Imp.go t77 (by omega))); (try (have i_t24 := Imp.go t24 (by omega))); (try (have i_t24 := Imp.go t24 (by omega))); (try (have i_t77 := Imp.go t77 (by omega))); omega)) (show (V122 0 50).toInt + (dd : Int) = 8 from by first | omega | ((try (have i_t77 := Imp.go t77 (by omega))); (try (have i_t24 := Imp.go t24 (by omega))); (try (have i_t24 := Imp.go t24 (by omega))); (try (have i_t77 := Imp.go t77 (by omega))); omega)) (EM.mv em ((up2_o hV122 (by decide)).trans ((ajV117 0 51 rfl).trans ((ajV99 0 51 rfl).trans ((ajV82 0 51 rfl).trans ((ajV66 0 51 rfl).trans ((ajV47 0 51 rfl).trans ((ajV29 0 51 rfl).trans (ajV8 0 51 rfl)))))))) ((up2_o hV122 (by decide)).trans ((ajV117 0 52 rfl).trans ((ajV99 0 52 rfl).trans ((ajV82 0 52 rfl).trans ((ajV66 0 52 rfl).trans ((ajV47 0 52 rfl).trans ((ajV29 0 52 rfl).trans (ajV8 0 52 rfl)))))))) (by rw [(up2_fo hV122 (by decide) : V122 27 = V117 27), (funext (fun q => ajV117 27 q rfl) : V117 27 = V99 27), (funext (fun q => ajV99 27 q rfl) : V99 27 = V82 27), (funext (fun q => ajV82 27 q rfl) : V82 27 = V66 27), (funext (fun q => ajV66 27 q rfl) : V66 27 = V47 27), (funext (fun q => ajV47 27 q rfl) : V47 27 = V29 27), (funext (fun q => ajV29 27 q rfl) : V29 27 = V8 27), (funext (fun q => ajV8 27 q rfl) : V8 27 = V 27)] : V122 27 = V 27) ((keepS.tr (keepS.tr (keepS.tr (keepS.tr (keepS.tr (keepS.rf : keepS gs 0 gs) (keepS.n1 1)) kp38) (keepS.n1 1)) kp91) (keepS.n1 1))).2.1)) w2116 w2118 w106 w172 w2119 rfl rfl hdV_yX12_expression ⟨(by show 10 * dd + 13 + 1 ≤ 10 * dd + 14; omega), (by show 8 + (3 + 11) + (300 * dd + 420) ≤ 300 * dd + 460; omega)⟩ rfl hl.1 rfl (Nat.le_of_ble_eq_true rfl) dX12_pick_60 ⟨Nat.le_of_ble_eq_true rfl, Nat.le_of_ble_eq_true rfl⟩) hP hD hK hS hA (fun u128 H locs w129 hP hD hK hS => ?_)
            obtain ⟨V135, L136⟩ := u128
            obtain ⟨hMV135, ajV135, axL136, t130, t131, t132, t133, t134⟩ := w129
            have alL136 : agL [35, 36, 37, 38, 45, 46, 47] L L136 := agL.tr alL83 axL136 (by decide)
            have hP : va_P D vwCl (mw ad kk ks.1 V135 L136) H := hP
            have hD : va_D A (mw ad kk ks.1 V135 L136) := hD
            have hMV135 : rgd bM V135 := hMV135
            have ajV135 : agr [(0, 7), (0, 8), (0, 48), (0, 50)] [35, 36, 37, 38, 45, 46, 47] V122 V135 := ajV135
            have agV135 : agr [(0, 7), (0, 8), (0, 48), (0, 50)] [35, 36, 37, 38, 45, 46, 47] V V135 := agV122.tr ajV135 (by decide) (by decide)
            have t130 : Imp ((V135 0 8).toInt = 0) ((V135 0 48).toInt - (V122 0 48).toInt ≤ 2 * ((V135 0 7).toInt - (V122 0 7).toInt)) := t130
            have t131 : (V135 0 48).toInt ≤ 8051 - 6 * (V122 0 50).toInt := t131
            have t132 : (V135 0 50).toInt = (V122 0 50).toInt := t132
            have t133 : (V122 0 48).toInt ≤ (V135 0 48).toInt := t133
            have t134 : RdM (gT) ((nx sx88 1)) (fun k => Iexpr (gd) :: k) (fun k => k) (V135 0 8).toInt (fun s9 => RelM V135 L136 (bq) (gn) (gT) s9 (gl) ∧ keepS ((nx sx88 1)) 1 s9) := t134
            have r137 : 0 ≤ ((V135 0 48)).toInt ∧ ((V135 0 48)).toInt ≤ 10000 := hMV135 0 48
            have r138 : 0 ≤ ((V135 0 8)).toInt ∧ ((V135 0 8)).toInt ≤ 70000 := hMV135 0 8
            have r139 : 0 ≤ ((V135 0 50)).toInt ∧ ((V135 0 50)).toInt ≤ 9 := hMV135 0 50
            rcases t134 with ⟨q140, sx141, h142, rl143, kp144⟩ | ⟨q140, h142⟩
            · skip
              have hr145 : ∀ k, Rc gT (Crun gs (Itake 40 :: Iexpr gd :: Itake 44 :: Iexpr gd :: Itake 44 :: Iexpr gd :: Itake 41 :: k)) (Crun sx141 (Itake 41 :: k)) := fun k => (hr105 k).tr (h142 (Itake 41 :: k))
              have fz146 := RelM.rg rl143
              have ps147 := (kp144).1
              refine lv_aload_n hx hb dX12_pick_63 rfl (lv_at hl 2 rfl) ?_
              refine lv_bipush (v := 41) hx hb dX12_pick_64 (by decide) ?_
              have r148 : Int32.toInt 41 = 41 := by decide
              refine gA_void (gA_runV (As := [.int 41]) (rest := []) (ci := 12) (q0 := 0) hx hb hml hown hg hP hD hK hS hA hnw hgk (s_takeSignA l D ks H.size ad kk V135 L136 41 (bq) (gn) (gT) (sx141) (gl) hMV135 rl143 (sg_yes (j := 41) (by decide) (by decide) (by decide))) w2075 w2077 w96 w172 w2078 rfl rfl hdV_yX12_takeSign ⟨(by show 1 + 1 ≤ 10 * dd + 14; omega), (by show 8 + (2 + 11) + (21) ≤ 300 * dd + 460; omega)⟩ rfl hl.1 rfl (Nat.le_of_ble_eq_true rfl) dX12_pick_66 ⟨Nat.le_of_ble_eq_true rfl, Nat.le_of_ble_eq_true rfl⟩) hP hD hK hS hA (fun u150 H locs w151 hP hD hK hS => ?_)
              obtain ⟨V153, L154⟩ := u150
              obtain ⟨hMV153, ajV153, axL154, t152⟩ := w151
              have axL154 : L136 = L154 := Eq.symm axL154
              subst axL154
              have hP : va_P D vwCl (mw ad kk ks.1 V153 L136) H := hP
              have hD : va_D A (mw ad kk ks.1 V153 L136) := hD
              have hMV153 : rgd bM V153 := hMV153
              have ajV153 : agr [(0, 7), (0, 8)] [] V135 V153 := ajV153
              have agV153 : agr [(0, 7), (0, 8), (0, 48), (0, 50)] [35, 36, 37, 38, 45, 46, 47] V V153 := agV135.tr ajV153 (by decide) (by decide)
              have t152 : ((V153 0 8).toInt = 0 ∧ (gT).1 ((sx141).1 0) = (Int32.toInt 41) ∧ RelM V153 L136 (bq) (gn) (gT) (nx (sx141) 1) (gl)) ∨ (1 ≤ (V153 0 8).toInt ∧ (gT).1 ((sx141).1 0) ≠ (Int32.toInt 41) ∧ (V153 0 8).toInt = 1 + 16 * (gT).2.2 ((sx141).1 0)) := t152
              rcases t152 with ⟨q155, h156, rl157⟩ | ⟨q155, h156, rl157⟩
              · skip
                have kd158 : gT.1 (sx141.1 0) = 41 := h156.trans (by decide)
                have hr159 : ∀ k, Rc gT (Crun gs (Itake 40 :: Iexpr gd :: Itake 44 :: Iexpr gd :: Itake 44 :: Iexpr gd :: Itake 41 :: k)) (Crun (nx sx141 1) (k)) := fun k => Rc.go1 (hr145 k) (tk_y kd158)
                have ps160 : (nx sx141 1).1 0 = sx141.1 0 + 1 := rfl
                have fz161 := RelM.rg rl157
                have r162 : 0 ≤ ((V153 0 8)).toInt ∧ ((V153 0 8)).toInt ≤ 70000 := hMV153 0 8
                refine lv_aload_n hx hb dX12_pick_69 rfl (lv_at hl 2 rfl) ?_
                refine va_get (D := D) (ci := 12) (v := .ref (ad 46)) (C := RX12) (T := TX12) (N := 100) hx hb hg inX12 hown hK hP 0 rfl rfl 46 (by decide) (hg _ w1752) (fun _ h9 => h9) rfl dX12_pick_70 ?_
                refine lv_iload_n hx hb dX12_pick_73 rfl (lv_at hl 0 rfl) ?_
                refine lv_aload_n hx hb dX12_pick_74 rfl (lv_at hl 2 rfl) ?_
                refine va_get (D := D) (ci := 12) (v := .int (V153 0 49)) (C := RX12) (T := TX12) (N := 100) hx hb hg inX12 hown hK hP 0 rfl rfl 49 (by decide) (hg _ w1755) (fun _ h9 => h9) rfl dX12_pick_75 ?_
                refine g_top (v := (V 0 49)) ((ajV153 0 49 rfl).trans ((ajV135 0 49 rfl).trans ((up2_o hV122 (by decide)).trans ((ajV117 0 49 rfl).trans ((ajV99 0 49 rfl).trans ((ajV82 0 49 rfl).trans ((ajV66 0 49 rfl).trans ((ajV47 0 49 rfl).trans ((ajV29 0 49 rfl).trans (ajV8 0 49 rfl)))))))))) ?_
                refine lv_aload_n hx hb dX12_pick_78 rfl (lv_at hl 2 rfl) ?_
                refine va_get (D := D) (ci := 12) (v := .int (V153 0 48)) (C := RX12) (T := TX12) (N := 100) hx hb hg inX12 hown hK hP 0 rfl rfl 48 (by decide) (hg _ w1754) (fun _ h9 => h9) rfl dX12_pick_79 ?_
                refine g_top (v := (V135 0 48)) (ajV153 0 48 rfl) ?_
                refine lv_iadd hx hb dX12_pick_82 ?_
                refine lv_topi (fun z163 ez163 => ?_)
                have hz163 : z163.toInt = ((V 0 49)).toInt + ((V135 0 48)).toInt := i_add ez163 rfl rfl (by omega)
                refine va_iast (D := D) (i := z111) (x := z163) hx hb hK hP hD hS 39 38 rfl rfl (i_in (a := z111.toInt) rfl (by first | omega | ((try (have i_t130 := Imp.go t130 (by omega))); (try (have i_t77 := Imp.go t77 (by omega))); (try (have i_t24 := Imp.go t24 (by omega))); (try (have i_t24 := Imp.go t24 (by omega))); (try (have i_t77 := Imp.go t77 (by omega))); (try (have i_t130 := Imp.go t130 (by omega))); omega))) dX12_pick_83 (fun H locs hP hD hS => ?_)
                obtain ⟨V164, hV164⟩ : ∃ z, z = up2 V153 46 (Int32.toNatClampNeg z111) z163 := ⟨_, rfl⟩
                have hP : va_P D vwCl (mw ad kk ks.1 V164 L136) H := by rw [hV164]; exact hP
                have hD : va_D A (mw ad kk ks.1 V164 L136) := by rw [hV164]; exact hD
                have hMV164 : rgd bM V164 := hMV153.put hV164 (i_full _)
                have agV164 : agr [(0, 7), (0, 8), (0, 48), (0, 50)] [35, 36, 37, 38, 45, 46, 47] V V164 := agV153.up hV164 rfl
                have pq165 : (V164 0 7).toInt = ((V153 0 7)).toInt := congrArg Int32.toInt (up2_o hV164 (by decide))
                have pq166 : (V164 0 48).toInt = ((V135 0 48)).toInt := congrArg Int32.toInt ((up2_o hV164 (by decide)).trans (ajV153 0 48 rfl))
                have pq167 : (V164 0 8).toInt = ((V153 0 8)).toInt := congrArg Int32.toInt (up2_o hV164 (by decide))
                have pq168 : (V164 0 50).toInt = ((V135 0 50)).toInt := congrArg Int32.toInt ((up2_o hV164 (by decide)).trans (ajV153 0 50 rfl))
                have rl169 : RelM V164 L136 bq gn gT (nx sx141 1) gl := RelM.ag rl157 (show agr [] [46] V153 V164 from (agr.up agr.rf hV164 rfl)) (by decide) (show agL [] L136 L136 from agL.rf) (by decide)
                exact W.vret hx hb hr (fun t ht hW => ⟨⟨(V164, L136), rfl, ⟨hMV164, agV164, alL136, (Imp.mk (fun hp => have hp : (V164 0 8).toInt = 0 := hp; (show (V164 0 48).toInt - (V 0 48).toInt ≤ 2 * ((V164 0 7).toInt - (V 0 7).toInt) from by first | omega | ((try (have i_t130 := Imp.go t130 (by omega))); (try (have i_t77 := Imp.go t77 (by omega))); (try (have i_t24 := Imp.go t24 (by omega))); (try (have i_t24 := Imp.go t24 (by omega))); (try (have i_t77 := Imp.go t77 (by omega))); (try (have i_t130 := Imp.go t130 (by omega))); omega)))), (show (V164 0 48).toInt ≤ 8053 - 6 * (V 0 50).toInt from by first | omega | ((try (have i_t130 := Imp.go t130 (by omega))); (try (have i_t77 := Imp.go t77 (by omega))); (try (have i_t24 := Imp.go t24 (by omega))); (try (have i_t24 := Imp.go t24 (by omega))); (try (have i_t77 := Imp.go t77 (by omega))); (try (have i_t130 := Imp.go t130 (by omega))); omega)), (show (V164 0 50).toInt = (V 0 50).toInt from by first | omega | ((try (have i_t130 := Imp.go t130 (by omega))); (try (have i_t77 := Imp.go t77 (by omega))); (try (have i_t24 := Imp.go t24 (by omega))); (try (have i_t24 := Imp.go t24 (by omega))); (try (have i_t77 := Imp.go t77 (by omega))); (try (have i_t130 := Imp.go t130 (by omega))); omega)), (show (V 0 48).toInt ≤ (V164 0 48).toInt from by first | omega | ((try (have i_t130 := Imp.go t130 (by omega))); (try (have i_t77 := Imp.go t77 (by omega))); (try (have i_t24 := Imp.go t24 (by omega))); (try (have i_t24 := Imp.go t24 (by omega))); (try (have i_t77 := Imp.go t77 (by omega))); (try (have i_t130 := Imp.go t130 (by omega))); omega)), (Or.inl ⟨W0 rl169, (nx sx141 1), hr159, rl169, keepS.le (keepS.tr (keepS.tr (keepS.tr (keepS.tr (keepS.tr (keepS.tr (keepS.tr (keepS.rf : keepS gs 0 gs) (keepS.n1 1)) kp38) (keepS.n1 1)) kp91) (keepS.n1 1)) kp144) (keepS.n1 1)) (by decide)⟩)⟩, by rw [ht]; exact hP, va_K.moved hW.alike hK, hD⟩, hS.F ht⟩) hS.2.2 dX12_pick_84
              · skip
                have kd170 : gT.1 (sx141.1 0) ≠ 41 := fun h9 => h156 (h9.trans (by decide))
                have hb171 : ∀ k, Rc gT (Crun gs (Itake 40 :: Iexpr gd :: Itake 44 :: Iexpr gd :: Itake 44 :: Iexpr gd :: Itake 41 :: k)) (Cbad (V153 0 8).toInt) := fun k => Rc.go1 (hr145 k) ((tk_n kd170).trans (fl_eq rfl rl157))
                have r172 : 0 ≤ ((V153 0 8)).toInt ∧ ((V153 0 8)).toInt ≤ 70000 := hMV153 0 8
                refine lv_aload_n hx hb dX12_pick_69 rfl (lv_at hl 2 rfl) ?_
                refine va_get (D := D) (ci := 12) (v := .ref (ad 46)) (C := RX12) (T := TX12) (N := 100) hx hb hg inX12 hown hK hP 0 rfl rfl 46 (by decide) (hg _ w1752) (fun _ h9 => h9) rfl dX12_pick_70 ?_
                refine lv_iload_n hx hb dX12_pick_73 rfl (lv_at hl 0 rfl) ?_
                refine lv_aload_n hx hb dX12_pick_74 rfl (lv_at hl 2 rfl) ?_
                refine va_get (D := D) (ci := 12) (v := .int (V153 0 49)) (C := RX12) (T := TX12) (N := 100) hx hb hg inX12 hown hK hP 0 rfl rfl 49 (by decide) (hg _ w1755) (fun _ h9 => h9) rfl dX12_pick_75 ?_
                refine g_top (v := (V 0 49)) ((ajV153 0 49 rfl).trans ((ajV135 0 49 rfl).trans ((up2_o hV122 (by decide)).trans ((ajV117 0 49 rfl).trans ((ajV99 0 49 rfl).trans ((ajV82 0 49 rfl).trans ((ajV66 0 49 rfl).trans ((ajV47 0 49 rfl).trans ((ajV29 0 49 rfl).trans (ajV8 0 49 rfl)))))))))) ?_
                refine lv_aload_n hx hb dX12_pick_78 rfl (lv_at hl 2 rfl) ?_
                refine va_get (D := D) (ci := 12) (v := .int (V153 0 48)) (C := RX12) (T := TX12) (N := 100) hx hb hg inX12 hown hK hP 0 rfl rfl 48 (by decide) (hg _ w1754) (fun _ h9 => h9) rfl dX12_pick_79 ?_
                refine g_top (v := (V135 0 48)) (ajV153 0 48 rfl) ?_
                refine lv_iadd hx hb dX12_pick_82 ?_
                refine lv_topi (fun z173 ez173 => ?_)
                have hz173 : z173.toInt = ((V 0 49)).toInt + ((V135 0 48)).toInt := i_add ez173 rfl rfl (by omega)
                refine va_iast (D := D) (i := z111) (x := z173) hx hb hK hP hD hS 39 38 rfl rfl (i_in (a := z111.toInt) rfl (by first | omega | ((try (have i_t130 := Imp.go t130 (by omega))); (try (have i_t77 := Imp.go t77 (by omega))); (try (have i_t24 := Imp.go t24 (by omega))); (try (have i_t24 := Imp.go t24 (by omega))); (try (have i_t77 := Imp.go t77 (by omega))); (try (have i_t130 := Imp.go t130 (by omega))); omega))) dX12_pick_83 (fun H locs hP hD hS => ?_)
                obtain ⟨V174, hV174⟩ : ∃ z, z = up2 V153 46 (Int32.toNatClampNeg z111) z173 := ⟨_, rfl⟩
                have hP : va_P D vwCl (mw ad kk ks.1 V174 L136) H := by rw [hV174]; exact hP
                have hD : va_D A (mw ad kk ks.1 V174 L136) := by rw [hV174]; exact hD
                have hMV174 : rgd bM V174 := hMV153.put hV174 (i_full _)
                have agV174 : agr [(0, 7), (0, 8), (0, 48), (0, 50)] [35, 36, 37, 38, 45, 46, 47] V V174 := agV153.up hV174 rfl
                have pq175 : (V174 0 7).toInt = ((V153 0 7)).toInt := congrArg Int32.toInt (up2_o hV174 (by decide))
                have pq176 : (V174 0 48).toInt = ((V135 0 48)).toInt := congrArg Int32.toInt ((up2_o hV174 (by decide)).trans (ajV153 0 48 rfl))
                have pq177 : (V174 0 8).toInt = ((V153 0 8)).toInt := congrArg Int32.toInt (up2_o hV174 (by decide))
                have pq178 : (V174 0 50).toInt = ((V135 0 50)).toInt := congrArg Int32.toInt ((up2_o hV174 (by decide)).trans (ajV153 0 50 rfl))
                exact W.vret hx hb hr (fun t ht hW => ⟨⟨(V174, L136), rfl, ⟨hMV174, agV174, alL136, (Imp.mk (fun hp => have hp : (V174 0 8).toInt = 0 := hp; (show (V174 0 48).toInt - (V 0 48).toInt ≤ 2 * ((V174 0 7).toInt - (V 0 7).toInt) from by first | omega | ((try (have i_t130 := Imp.go t130 (by omega))); (try (have i_t77 := Imp.go t77 (by omega))); (try (have i_t24 := Imp.go t24 (by omega))); (try (have i_t24 := Imp.go t24 (by omega))); (try (have i_t77 := Imp.go t77 (by omega))); (try (have i_t130 := Imp.go t130 (by omega))); omega)))), (show (V174 0 48).toInt ≤ 8053 - 6 * (V 0 50).toInt from by first | omega | ((try (have i_t130 := Imp.go t130 (by omega))); (try (have i_t77 := Imp.go t77 (by omega))); (try (have i_t24 := Imp.go t24 (by omega))); (try (have i_t24 := Imp.go t24 (by omega))); (try (have i_t77 := Imp.go t77 (by omega))); (try (have i_t130 := Imp.go t130 (by omega))); omega)), (show (V174 0 50).toInt = (V 0 50).toInt from by first | omega | ((try (have i_t130 := Imp.go t130 (by omega))); (try (have i_t77 := Imp.go t77 (by omega))); (try (have i_t24 := Imp.go t24 (by omega))); (try (have i_t24 := Imp.go t24 (by omega))); (try (have i_t77 := Imp.go t77 (by omega))); (try (have i_t130 := Imp.go t130 (by omega))); omega)), (show (V 0 48).toInt ≤ (V174 0 48).toInt from by first | omega | ((try (have i_t130 := Imp.go t130 (by omega))); (try (have i_t77 := Imp.go t77 (by omega))); (try (have i_t24 := Imp.go t24 (by omega))); (try (have i_t24 := Imp.go t24 (by omega))); (try (have i_t77 := Imp.go t77 (by omega))); (try (have i_t130 := Imp.go t130 (by omega))); omega)), (Or.inr ⟨(show 1 ≤ (V174 0 8).toInt from by omega), (fun k => by rw [show (V174 0 8).toInt = (V153 0 8).toInt from by omega]; exact hb171 k)⟩)⟩, by rw [ht]; exact hP, va_K.moved hW.alike hK, hD⟩, hS.F ht⟩) hS.2.2 dX12_pick_84
            · skip
              have hb179 : ∀ k, Rc gT (Crun gs (Itake 40 :: Iexpr gd :: Itake 44 :: Iexpr gd :: Itake 44 :: Iexpr gd :: Itake 41 :: k)) (Cbad (V135 0 8).toInt) := fun k => (hr105 k).tr (h142 (Itake 41 :: k))
              refine lv_aload_n hx hb dX12_pick_63 rfl (lv_at hl 2 rfl) ?_
              refine lv_bipush (v := 41) hx hb dX12_pick_64 (by decide) ?_
              have r180 : Int32.toInt 41 = 41 := by decide
              refine gA_void (gA_runV (As := [.int 41]) (rest := []) (ci := 12) (q0 := 0) hx hb hml hown hg hP hD hK hS hA hnw hgk (s_takeSignB l D ks H.size ad kk V135 L136 41 hMV135 (show 1 ≤ (V135 0 8).toInt from by first | omega | ((try (have i_t130 := Imp.go t130 (by omega))); (try (have i_t77 := Imp.go t77 (by omega))); (try (have i_t24 := Imp.go t24 (by omega))); (try (have i_t24 := Imp.go t24 (by omega))); (try (have i_t77 := Imp.go t77 (by omega))); (try (have i_t130 := Imp.go t130 (by omega))); omega))) w2075 w2077 w96 w172 w2078 rfl rfl hdV_yX12_takeSign ⟨(by show 1 + 1 ≤ 10 * dd + 14; omega), (by show 8 + (2 + 11) + (21) ≤ 300 * dd + 460; omega)⟩ rfl hl.1 rfl (Nat.le_of_ble_eq_true rfl) dX12_pick_66 ⟨Nat.le_of_ble_eq_true rfl, Nat.le_of_ble_eq_true rfl⟩) hP hD hK hS hA (fun u182 H locs w183 hP hD hK hS => ?_)
              obtain ⟨V185, L186⟩ := u182
              obtain ⟨hMV185, ajV185, axL186, t184⟩ := w183
              have axL186 : L136 = L186 := Eq.symm axL186
              subst axL186
              have hP : va_P D vwCl (mw ad kk ks.1 V185 L136) H := hP
              have hD : va_D A (mw ad kk ks.1 V185 L136) := hD
              have hMV185 : rgd bM V185 := hMV185
              have ajV185 : agr [(0, 7), (0, 8)] [] V135 V185 := ajV185
              have agV185 : agr [(0, 7), (0, 8), (0, 48), (0, 50)] [35, 36, 37, 38, 45, 46, 47] V V185 := agV135.tr ajV185 (by decide) (by decide)
              have t184 : (V185 0 8).toInt = (V135 0 8).toInt := t184
              have r187 : 0 ≤ ((V185 0 8)).toInt ∧ ((V185 0 8)).toInt ≤ 70000 := hMV185 0 8
              refine lv_aload_n hx hb dX12_pick_69 rfl (lv_at hl 2 rfl) ?_
              refine va_get (D := D) (ci := 12) (v := .ref (ad 46)) (C := RX12) (T := TX12) (N := 100) hx hb hg inX12 hown hK hP 0 rfl rfl 46 (by decide) (hg _ w1752) (fun _ h9 => h9) rfl dX12_pick_70 ?_
              refine lv_iload_n hx hb dX12_pick_73 rfl (lv_at hl 0 rfl) ?_
              refine lv_aload_n hx hb dX12_pick_74 rfl (lv_at hl 2 rfl) ?_
              refine va_get (D := D) (ci := 12) (v := .int (V185 0 49)) (C := RX12) (T := TX12) (N := 100) hx hb hg inX12 hown hK hP 0 rfl rfl 49 (by decide) (hg _ w1755) (fun _ h9 => h9) rfl dX12_pick_75 ?_
              refine g_top (v := (V 0 49)) ((ajV185 0 49 rfl).trans ((ajV135 0 49 rfl).trans ((up2_o hV122 (by decide)).trans ((ajV117 0 49 rfl).trans ((ajV99 0 49 rfl).trans ((ajV82 0 49 rfl).trans ((ajV66 0 49 rfl).trans ((ajV47 0 49 rfl).trans ((ajV29 0 49 rfl).trans (ajV8 0 49 rfl)))))))))) ?_
              refine lv_aload_n hx hb dX12_pick_78 rfl (lv_at hl 2 rfl) ?_
              refine va_get (D := D) (ci := 12) (v := .int (V185 0 48)) (C := RX12) (T := TX12) (N := 100) hx hb hg inX12 hown hK hP 0 rfl rfl 48 (by decide) (hg _ w1754) (fun _ h9 => h9) rfl dX12_pick_79 ?_
              refine g_top (v := (V135 0 48)) (ajV185 0 48 rfl) ?_
              refine lv_iadd hx hb dX12_pick_82 ?_
              refine lv_topi (fun z188 ez188 => ?_)
              have hz188 : z188.toInt = ((V 0 49)).toInt + ((V135 0 48)).toInt := i_add ez188 rfl rfl (by omega)
              refine va_iast (D := D) (i := z111) (x := z188) hx hb hK hP hD hS 39 38 rfl rfl (i_in (a := z111.toInt) rfl (by first | omega | ((try (have i_t130 := Imp.go t130 (by omega))); (try (have i_t77 := Imp.go t77 (by omega))); (try (have i_t24 := Imp.go t24 (by omega))); (try (have i_t24 := Imp.go t24 (by omega))); (try (have i_t77 := Imp.go t77 (by omega))); (try (have i_t130 := Imp.go t130 (by omega))); omega))) dX12_pick_83 (fun H locs hP hD hS => ?_)
              obtain ⟨V189, hV189⟩ : ∃ z, z = up2 V185 46 (Int32.toNatClampNeg z111) z188 := ⟨_, rfl⟩
              have hP : va_P D vwCl (mw ad kk ks.1 V189 L136) H := by rw [hV189]; exact hP
              have hD : va_D A (mw ad kk ks.1 V189 L136) := by rw [hV189]; exact hD
              have hMV189 : rgd bM V189 := hMV185.put hV189 (i_full _)
              have agV189 : agr [(0, 7), (0, 8), (0, 48), (0, 50)] [35, 36, 37, 38, 45, 46, 47] V V189 := agV185.up hV189 rfl
              have pq190 : (V189 0 7).toInt = ((V185 0 7)).toInt := congrArg Int32.toInt (up2_o hV189 (by decide))
              have pq191 : (V189 0 48).toInt = ((V135 0 48)).toInt := congrArg Int32.toInt ((up2_o hV189 (by decide)).trans (ajV185 0 48 rfl))
              have pq192 : (V189 0 8).toInt = ((V185 0 8)).toInt := congrArg Int32.toInt (up2_o hV189 (by decide))
              have pq193 : (V189 0 50).toInt = ((V135 0 50)).toInt := congrArg Int32.toInt ((up2_o hV189 (by decide)).trans (ajV185 0 50 rfl))
              exact W.vret hx hb hr (fun t ht hW => ⟨⟨(V189, L136), rfl, ⟨hMV189, agV189, alL136, (Imp.mk (fun hp => have hp : (V189 0 8).toInt = 0 := hp; (show (V189 0 48).toInt - (V 0 48).toInt ≤ 2 * ((V189 0 7).toInt - (V 0 7).toInt) from by first | omega | ((try (have i_t130 := Imp.go t130 (by omega))); (try (have i_t77 := Imp.go t77 (by omega))); (try (have i_t24 := Imp.go t24 (by omega))); (try (have i_t24 := Imp.go t24 (by omega))); (try (have i_t77 := Imp.go t77 (by omega))); (try (have i_t130 := Imp.go t130 (by omega))); omega)))), (show (V189 0 48).toInt ≤ 8053 - 6 * (V 0 50).toInt from by first | omega | ((try (have i_t130 := Imp.go t130 (by omega))); (try (have i_t77 := Imp.go t77 (by omega))); (try (have i_t24 := Imp.go t24 (by omega))); (try (have i_t24 := Imp.go t24 (by omega))); (try (have i_t77 := Imp.go t77 (by omega))); (try (have i_t130 := Imp.go t130 (by omega))); omega)), (show (V189 0 50).toInt = (V 0 50).toInt from by first | omega | ((try (have i_t130 := Imp.go t130 (by omega))); (try (have i_t77 := Imp.go t77 (by omega))); (try (have i_t24 := Imp.go t24 (by omega))); (try (have i_t24 := Imp.go t24 (by omega))); (try (have i_t77 := Imp.go t77 (by omega))); (try (have i_t130 := Imp.go t130 (by omega))); omega)), (show (V 0 48).toInt ≤ (V189 0 48).toInt from by first | omega | ((try (have i_t130 := Imp.go t130 (by omega))); (try (have i_t77 := Imp.go t77 (by omega))); (try (have i_t24 := Imp.go t24 (by omega))); (try (have i_t24 := Imp.go t24 (by omega))); (try (have i_t77 := Imp.go t77 (by omega))); (try (have i_t130 := Imp.go t130 (by omega))); omega)), (Or.inr ⟨(show 1 ≤ (V189 0 8).toInt from by omega), (fun k => by rw [show (V189 0 8).toInt = (V135 0 8).toInt from by omega]; exact hb179 k)⟩)⟩, by rw [ht]; exact hP, va_K.moved hW.alike hK, hD⟩, hS.F ht⟩) hS.2.2 dX12_pick_84
          · skip
            have kd194 : gT.1 (sx88.1 0) ≠ 44 := fun h9 => h102 (h9.trans (by decide))
            have hb195 : ∀ k, Rc gT (Crun gs (Itake 40 :: Iexpr gd :: Itake 44 :: Iexpr gd :: Itake 44 :: Iexpr gd :: Itake 41 :: k)) (Cbad (V99 0 8).toInt) := fun k => Rc.go1 (hr92 k) ((tk_n kd194).trans (fl_eq rfl rl103))
            have r196 : 0 ≤ ((V99 0 8)).toInt ∧ ((V99 0 8)).toInt ≤ 70000 := hMV99 0 8
            refine lv_aload_n hx hb dX12_pick_35 rfl (lv_at hl 1 rfl) ?_
            refine lv_bipush (v := 13) hx hb dX12_pick_36 (by decide) ?_
            refine lv_iconst (v := 0) hx hb dX12_pick_38 (by decide) ?_
            refine lv_iconst (v := 0) hx hb dX12_pick_39 (by decide) ?_
            have r197 : Int32.toInt 13 = 13 := by decide
            have pq198 : (V99 0 48).toInt = ((V82 0 48)).toInt := congrArg Int32.toInt (ajV99 0 48 rfl)
            refine gA_int (gA_runV (As := [.int 13, .int 0, .int 0]) (rest := []) (ci := 12) (q0 := 0) hx hb hml hown hg hP hD hK hS hA hnw hgk (s_emit3 l D ks H.size ad kk V99 L83 13 0 0 hMV99 (show (V99 0 48).toInt ≤ 9999 from by first | omega | ((try (have i_t77 := Imp.go t77 (by omega))); (try (have i_t24 := Imp.go t24 (by omega))); (try (have i_t24 := Imp.go t24 (by omega))); (try (have i_t77 := Imp.go t77 (by omega))); omega))) w2136 w2138 w111 w172 w2139 rfl rfl hdV_yX12_emit ⟨(by show 0 + 1 ≤ 10 * dd + 14; omega), (by show 8 + (4 + 11) + (0) ≤ 300 * dd + 460; omega)⟩ rfl hl.1 rfl (Nat.le_of_ble_eq_true rfl) dX12_pick_40 ⟨Nat.le_of_ble_eq_true rfl, Nat.le_of_ble_eq_true rfl⟩) hP hD hK hS hA (fun z199 u200 H locs w201 hP hD hK hS => ?_)
            obtain ⟨V205, L206⟩ := u200
            obtain ⟨hMV205, ajV205, axL206, rgz199, t202, t203, t204⟩ := w201
            have axL206 : L83 = L206 := Eq.symm axL206
            subst axL206
            have hP : va_P D vwCl (mw ad kk ks.1 V205 L83) H := hP
            have hD : va_D A (mw ad kk ks.1 V205 L83) := hD
            have hMV205 : rgd bM V205 := hMV205
            have ajV205 : agr [(0, 48)] [45, 46, 47] V99 V205 := ajV205
            have agV205 : agr [(0, 7), (0, 8), (0, 48), (0, 50)] [35, 36, 37, 38, 45, 46, 47] V V205 := agV99.tr ajV205 (by decide) (by decide)
            have rgz199 : 0 ≤ z199.toInt ∧ z199.toInt ≤ 20000 := rgz199
            have t202 : (V205 0 48).toInt = (V99 0 48).toInt + 1 := t202
            have t203 : z199.toInt = (V99 0 49).toInt + (V99 0 48).toInt := t203
            have t204 : emitted V99 V205 (pA V99) 13 0 0 := t204
            have r207 : 0 ≤ ((V205 0 48)).toInt ∧ ((V205 0 48)).toInt ≤ 10000 := hMV205 0 48
            have pq208 : (V99 0 49).toInt = ((V 0 49)).toInt := congrArg Int32.toInt ((ajV99 0 49 rfl).trans ((ajV82 0 49 rfl).trans ((ajV66 0 49 rfl).trans ((ajV47 0 49 rfl).trans ((ajV29 0 49 rfl).trans (ajV8 0 49 rfl))))))
            refine lv_istore_n (lv' := [(2, .int z199), (1, .int z60), (0, .ref (ad 0))]) hx hb dX12_pick_43 rfl hl (by decide) rfl (fun ls hl => ?_)
            refine lv_aload_n hx hb dX12_pick_44 rfl (lv_at hl 2 rfl) ?_
            refine va_get (D := D) (ci := 12) (v := .ref (ad 46)) (C := RX12) (T := TX12) (N := 100) hx hb hg inX12 hown hK hP 0 rfl rfl 46 (by decide) (hg _ w1752) (fun _ h9 => h9) rfl dX12_pick_45 ?_
            refine lv_iload_n hx hb dX12_pick_48 rfl (lv_at hl 1 rfl) ?_
            refine lv_aload_n hx hb dX12_pick_49 rfl (lv_at hl 2 rfl) ?_
            refine va_get (D := D) (ci := 12) (v := .int (V205 0 49)) (C := RX12) (T := TX12) (N := 100) hx hb hg inX12 hown hK hP 0 rfl rfl 49 (by decide) (hg _ w1755) (fun _ h9 => h9) rfl dX12_pick_50 ?_
            refine g_top (v := (V 0 49)) ((ajV205 0 49 rfl).trans ((ajV99 0 49 rfl).trans ((ajV82 0 49 rfl).trans ((ajV66 0 49 rfl).trans ((ajV47 0 49 rfl).trans ((ajV29 0 49 rfl).trans (ajV8 0 49 rfl))))))) ?_
            refine lv_aload_n hx hb dX12_pick_53 rfl (lv_at hl 2 rfl) ?_
            refine va_get (D := D) (ci := 12) (v := .int (V205 0 48)) (C := RX12) (T := TX12) (N := 100) hx hb hg inX12 hown hK hP 0 rfl rfl 48 (by decide) (hg _ w1754) (fun _ h9 => h9) rfl dX12_pick_54 ?_
            refine lv_iadd hx hb dX12_pick_57 ?_
            refine lv_topi (fun z209 ez209 => ?_)
            have hz209 : z209.toInt = ((V 0 49)).toInt + ((V205 0 48)).toInt := i_add ez209 rfl rfl (by omega)
            refine va_iast (D := D) (i := z60) (x := z209) hx hb hK hP hD hS 39 38 rfl rfl (i_in (a := z60.toInt) rfl (by first | omega | ((try (have i_t77 := Imp.go t77 (by omega))); (try (have i_t24 := Imp.go t24 (by omega))); (try (have i_t24 := Imp.go t24 (by omega))); (try (have i_t77 := Imp.go t77 (by omega))); omega))) dX12_pick_58 (fun H locs hP hD hS => ?_)
            obtain ⟨V210, hV210⟩ : ∃ z, z = up2 V205 46 (Int32.toNatClampNeg z60) z209 := ⟨_, rfl⟩
            have hP : va_P D vwCl (mw ad kk ks.1 V210 L83) H := by rw [hV210]; exact hP
            have hD : va_D A (mw ad kk ks.1 V210 L83) := by rw [hV210]; exact hD
            have hMV210 : rgd bM V210 := hMV205.put hV210 (i_full _)
            have agV210 : agr [(0, 7), (0, 8), (0, 48), (0, 50)] [35, 36, 37, 38, 45, 46, 47] V V210 := agV205.up hV210 rfl
            refine lv_aload_n hx hb dX12_pick_59 rfl (lv_at hl 2 rfl) ?_
            have pq211 : (V210 0 8).toInt = ((V99 0 8)).toInt := congrArg Int32.toInt ((up2_o hV210 (by decide)).trans (ajV205 0 8 rfl))
            have pq212 : (V210 0 50).toInt = ((V82 0 50)).toInt := congrArg Int32.toInt ((up2_o hV210 (by decide)).trans ((ajV205 0 50 rfl).trans (ajV99 0 50 rfl)))
            refine gA_void (gA_runV (As := []) (rest := []) (ci := 12) (q0 := 0) hx hb hml hown hg hP hD hK hS hA hnw hgk (s_expressionB l D ks H.size ad kk V210 L83  hMV210 (show 1 ≤ (V210 0 8).toInt from by first | omega | ((try (have i_t77 := Imp.go t77 (by omega))); (try (have i_t24 := Imp.go t24 (by omega))); (try (have i_t24 := Imp.go t24 (by omega))); (try (have i_t77 := Imp.go t77 (by omega))); omega)) (show (V210 0 50).toInt ≤ 8 from by first | omega | ((try (have i_t77 := Imp.go t77 (by omega))); (try (have i_t24 := Imp.go t24 (by omega))); (try (have i_t24 := Imp.go t24 (by omega))); (try (have i_t77 := Imp.go t77 (by omega))); omega))) w2116 w2118 w106 w172 w2119 rfl rfl hdV_yX12_expression ⟨(by show 4 + 1 ≤ 10 * dd + 14; omega), (by show 8 + (3 + 11) + (86) ≤ 300 * dd + 460; omega)⟩ rfl hl.1 rfl (Nat.le_of_ble_eq_true rfl) dX12_pick_60 ⟨Nat.le_of_ble_eq_true rfl, Nat.le_of_ble_eq_true rfl⟩) hP hD hK hS hA (fun u214 H locs w215 hP hD hK hS => ?_)
            obtain ⟨V219, L220⟩ := u214
            obtain ⟨hMV219, ajV219, axL220, t216, t217, t218⟩ := w215
            have alL220 : agL [35, 36, 37, 38, 45, 46, 47] L L220 := agL.tr alL83 axL220 (by decide)
            have hP : va_P D vwCl (mw ad kk ks.1 V219 L220) H := hP
            have hD : va_D A (mw ad kk ks.1 V219 L220) := hD
            have hMV219 : rgd bM V219 := hMV219
            have ajV219 : agr [(0, 7), (0, 8), (0, 48), (0, 50)] [35, 36, 37, 38, 45, 46, 47] V210 V219 := ajV219
            have agV219 : agr [(0, 7), (0, 8), (0, 48), (0, 50)] [35, 36, 37, 38, 45, 46, 47] V V219 := agV210.tr ajV219 (by decide) (by decide)
            have t216 : (V219 0 48).toInt = (V210 0 48).toInt := t216
            have t217 : (V219 0 50).toInt = (V210 0 50).toInt := t217
            have t218 : (V219 0 8).toInt = (V210 0 8).toInt := t218
            have pq221 : (V210 0 48).toInt = ((V205 0 48)).toInt := congrArg Int32.toInt (up2_o hV210 (by decide))
            have r222 : 0 ≤ ((V219 0 48)).toInt ∧ ((V219 0 48)).toInt ≤ 10000 := hMV219 0 48
            have r223 : 0 ≤ ((V219 0 50)).toInt ∧ ((V219 0 50)).toInt ≤ 9 := hMV219 0 50
            have r224 : 0 ≤ ((V219 0 8)).toInt ∧ ((V219 0 8)).toInt ≤ 70000 := hMV219 0 8
            refine lv_aload_n hx hb dX12_pick_63 rfl (lv_at hl 2 rfl) ?_
            refine lv_bipush (v := 41) hx hb dX12_pick_64 (by decide) ?_
            have r225 : Int32.toInt 41 = 41 := by decide
            refine gA_void (gA_runV (As := [.int 41]) (rest := []) (ci := 12) (q0 := 0) hx hb hml hown hg hP hD hK hS hA hnw hgk (s_takeSignB l D ks H.size ad kk V219 L220 41 hMV219 (show 1 ≤ (V219 0 8).toInt from by first | omega | ((try (have i_t77 := Imp.go t77 (by omega))); (try (have i_t24 := Imp.go t24 (by omega))); (try (have i_t24 := Imp.go t24 (by omega))); (try (have i_t77 := Imp.go t77 (by omega))); omega))) w2075 w2077 w96 w172 w2078 rfl rfl hdV_yX12_takeSign ⟨(by show 1 + 1 ≤ 10 * dd + 14; omega), (by show 8 + (2 + 11) + (21) ≤ 300 * dd + 460; omega)⟩ rfl hl.1 rfl (Nat.le_of_ble_eq_true rfl) dX12_pick_66 ⟨Nat.le_of_ble_eq_true rfl, Nat.le_of_ble_eq_true rfl⟩) hP hD hK hS hA (fun u227 H locs w228 hP hD hK hS => ?_)
            obtain ⟨V230, L231⟩ := u227
            obtain ⟨hMV230, ajV230, axL231, t229⟩ := w228
            have axL231 : L220 = L231 := Eq.symm axL231
            subst axL231
            have hP : va_P D vwCl (mw ad kk ks.1 V230 L220) H := hP
            have hD : va_D A (mw ad kk ks.1 V230 L220) := hD
            have hMV230 : rgd bM V230 := hMV230
            have ajV230 : agr [(0, 7), (0, 8)] [] V219 V230 := ajV230
            have agV230 : agr [(0, 7), (0, 8), (0, 48), (0, 50)] [35, 36, 37, 38, 45, 46, 47] V V230 := agV219.tr ajV230 (by decide) (by decide)
            have t229 : (V230 0 8).toInt = (V219 0 8).toInt := t229
            have r232 : 0 ≤ ((V230 0 8)).toInt ∧ ((V230 0 8)).toInt ≤ 70000 := hMV230 0 8
            refine lv_aload_n hx hb dX12_pick_69 rfl (lv_at hl 2 rfl) ?_
            refine va_get (D := D) (ci := 12) (v := .ref (ad 46)) (C := RX12) (T := TX12) (N := 100) hx hb hg inX12 hown hK hP 0 rfl rfl 46 (by decide) (hg _ w1752) (fun _ h9 => h9) rfl dX12_pick_70 ?_
            refine lv_iload_n hx hb dX12_pick_73 rfl (lv_at hl 0 rfl) ?_
            refine lv_aload_n hx hb dX12_pick_74 rfl (lv_at hl 2 rfl) ?_
            refine va_get (D := D) (ci := 12) (v := .int (V230 0 49)) (C := RX12) (T := TX12) (N := 100) hx hb hg inX12 hown hK hP 0 rfl rfl 49 (by decide) (hg _ w1755) (fun _ h9 => h9) rfl dX12_pick_75 ?_
            refine g_top (v := (V 0 49)) ((ajV230 0 49 rfl).trans ((ajV219 0 49 rfl).trans ((up2_o hV210 (by decide)).trans ((ajV205 0 49 rfl).trans ((ajV99 0 49 rfl).trans ((ajV82 0 49 rfl).trans ((ajV66 0 49 rfl).trans ((ajV47 0 49 rfl).trans ((ajV29 0 49 rfl).trans (ajV8 0 49 rfl)))))))))) ?_
            refine lv_aload_n hx hb dX12_pick_78 rfl (lv_at hl 2 rfl) ?_
            refine va_get (D := D) (ci := 12) (v := .int (V230 0 48)) (C := RX12) (T := TX12) (N := 100) hx hb hg inX12 hown hK hP 0 rfl rfl 48 (by decide) (hg _ w1754) (fun _ h9 => h9) rfl dX12_pick_79 ?_
            refine g_top (v := (V219 0 48)) (ajV230 0 48 rfl) ?_
            refine lv_iadd hx hb dX12_pick_82 ?_
            refine lv_topi (fun z233 ez233 => ?_)
            have hz233 : z233.toInt = ((V 0 49)).toInt + ((V219 0 48)).toInt := i_add ez233 rfl rfl (by omega)
            refine va_iast (D := D) (i := z199) (x := z233) hx hb hK hP hD hS 39 38 rfl rfl (i_in (a := z199.toInt) rfl (by first | omega | ((try (have i_t77 := Imp.go t77 (by omega))); (try (have i_t24 := Imp.go t24 (by omega))); (try (have i_t24 := Imp.go t24 (by omega))); (try (have i_t77 := Imp.go t77 (by omega))); omega))) dX12_pick_83 (fun H locs hP hD hS => ?_)
            obtain ⟨V234, hV234⟩ : ∃ z, z = up2 V230 46 (Int32.toNatClampNeg z199) z233 := ⟨_, rfl⟩
            have hP : va_P D vwCl (mw ad kk ks.1 V234 L220) H := by rw [hV234]; exact hP
            have hD : va_D A (mw ad kk ks.1 V234 L220) := by rw [hV234]; exact hD
            have hMV234 : rgd bM V234 := hMV230.put hV234 (i_full _)
            have agV234 : agr [(0, 7), (0, 8), (0, 48), (0, 50)] [35, 36, 37, 38, 45, 46, 47] V V234 := agV230.up hV234 rfl
            have pq235 : (V234 0 7).toInt = ((V230 0 7)).toInt := congrArg Int32.toInt (up2_o hV234 (by decide))
            have pq236 : (V234 0 48).toInt = ((V219 0 48)).toInt := congrArg Int32.toInt ((up2_o hV234 (by decide)).trans (ajV230 0 48 rfl))
            have pq237 : (V234 0 8).toInt = ((V230 0 8)).toInt := congrArg Int32.toInt (up2_o hV234 (by decide))
            have pq238 : (V234 0 50).toInt = ((V219 0 50)).toInt := congrArg Int32.toInt ((up2_o hV234 (by decide)).trans (ajV230 0 50 rfl))
            exact W.vret hx hb hr (fun t ht hW => ⟨⟨(V234, L220), rfl, ⟨hMV234, agV234, alL220, (Imp.mk (fun hp => have hp : (V234 0 8).toInt = 0 := hp; (show (V234 0 48).toInt - (V 0 48).toInt ≤ 2 * ((V234 0 7).toInt - (V 0 7).toInt) from by first | omega | ((try (have i_t77 := Imp.go t77 (by omega))); (try (have i_t24 := Imp.go t24 (by omega))); (try (have i_t24 := Imp.go t24 (by omega))); (try (have i_t77 := Imp.go t77 (by omega))); omega)))), (show (V234 0 48).toInt ≤ 8053 - 6 * (V 0 50).toInt from by first | omega | ((try (have i_t77 := Imp.go t77 (by omega))); (try (have i_t24 := Imp.go t24 (by omega))); (try (have i_t24 := Imp.go t24 (by omega))); (try (have i_t77 := Imp.go t77 (by omega))); omega)), (show (V234 0 50).toInt = (V 0 50).toInt from by first | omega | ((try (have i_t77 := Imp.go t77 (by omega))); (try (have i_t24 := Imp.go t24 (by omega))); (try (have i_t24 := Imp.go t24 (by omega))); (try (have i_t77 := Imp.go t77 (by omega))); omega)), (show (V 0 48).toInt ≤ (V234 0 48).toInt from by first | omega | ((try (have i_t77 := Imp.go t77 (by omega))); (try (have i_t24 := Imp.go t24 (by omega))); (try (have i_t24 := Imp.go t24 (by omega))); (try (have i_t77 := Imp.go t77 (by omega))); omega)), (Or.inr ⟨(show 1 ≤ (V234 0 8).toInt from by omega), (fun k => by rw [show (V234 0 8).toInt = (V99 0 8).toInt from by omega]; exact hb195 k)⟩)⟩, by rw [ht]; exact hP, va_K.moved hW.alike hK, hD⟩, hS.F ht⟩) hS.2.2 dX12_pick_84
        · skip
          have hb239 : ∀ k, Rc gT (Crun gs (Itake 40 :: Iexpr gd :: Itake 44 :: Iexpr gd :: Itake 44 :: Iexpr gd :: Itake 41 :: k)) (Cbad (V82 0 8).toInt) := fun k => (hr53 k).tr (h89 (Itake 44 :: Iexpr gd :: Itake 41 :: k))
          refine lv_aload_n hx hb dX12_pick_29 rfl (lv_at hl 1 rfl) ?_
          refine lv_bipush (v := 44) hx hb dX12_pick_30 (by decide) ?_
          refine gA_void (gA_runV (As := [.int 44]) (rest := []) (ci := 12) (q0 := 0) hx hb hml hown hg hP hD hK hS hA hnw hgk (s_takeSignB l D ks H.size ad kk V82 L83 44 hMV82 (show 1 ≤ (V82 0 8).toInt from by first | omega | ((try (have i_t77 := Imp.go t77 (by omega))); (try (have i_t24 := Imp.go t24 (by omega))); (try (have i_t24 := Imp.go t24 (by omega))); (try (have i_t77 := Imp.go t77 (by omega))); omega))) w2075 w2077 w96 w172 w2078 rfl rfl hdV_yX12_takeSign ⟨(by show 1 + 1 ≤ 10 * dd + 14; omega), (by show 8 + (2 + 11) + (21) ≤ 300 * dd + 460; omega)⟩ rfl hl.1 rfl (Nat.le_of_ble_eq_true rfl) dX12_pick_32 ⟨Nat.le_of_ble_eq_true rfl, Nat.le_of_ble_eq_true rfl⟩) hP hD hK hS hA (fun u241 H locs w242 hP hD hK hS => ?_)
          obtain ⟨V244, L245⟩ := u241
          obtain ⟨hMV244, ajV244, axL245, t243⟩ := w242
          have axL245 : L83 = L245 := Eq.symm axL245
          subst axL245
          have hP : va_P D vwCl (mw ad kk ks.1 V244 L83) H := hP
          have hD : va_D A (mw ad kk ks.1 V244 L83) := hD
          have hMV244 : rgd bM V244 := hMV244
          have ajV244 : agr [(0, 7), (0, 8)] [] V82 V244 := ajV244
          have agV244 : agr [(0, 7), (0, 8), (0, 48), (0, 50)] [35, 36, 37, 38, 45, 46, 47] V V244 := agV82.tr ajV244 (by decide) (by decide)
          have t243 : (V244 0 8).toInt = (V82 0 8).toInt := t243
          have r246 : 0 ≤ ((V244 0 8)).toInt ∧ ((V244 0 8)).toInt ≤ 70000 := hMV244 0 8
          refine lv_aload_n hx hb dX12_pick_35 rfl (lv_at hl 1 rfl) ?_
          refine lv_bipush (v := 13) hx hb dX12_pick_36 (by decide) ?_
          refine lv_iconst (v := 0) hx hb dX12_pick_38 (by decide) ?_
          refine lv_iconst (v := 0) hx hb dX12_pick_39 (by decide) ?_
          have r247 : Int32.toInt 13 = 13 := by decide
          have pq248 : (V244 0 48).toInt = ((V82 0 48)).toInt := congrArg Int32.toInt (ajV244 0 48 rfl)
          refine gA_int (gA_runV (As := [.int 13, .int 0, .int 0]) (rest := []) (ci := 12) (q0 := 0) hx hb hml hown hg hP hD hK hS hA hnw hgk (s_emit3 l D ks H.size ad kk V244 L83 13 0 0 hMV244 (show (V244 0 48).toInt ≤ 9999 from by first | omega | ((try (have i_t77 := Imp.go t77 (by omega))); (try (have i_t24 := Imp.go t24 (by omega))); (try (have i_t24 := Imp.go t24 (by omega))); (try (have i_t77 := Imp.go t77 (by omega))); omega))) w2136 w2138 w111 w172 w2139 rfl rfl hdV_yX12_emit ⟨(by show 0 + 1 ≤ 10 * dd + 14; omega), (by show 8 + (4 + 11) + (0) ≤ 300 * dd + 460; omega)⟩ rfl hl.1 rfl (Nat.le_of_ble_eq_true rfl) dX12_pick_40 ⟨Nat.le_of_ble_eq_true rfl, Nat.le_of_ble_eq_true rfl⟩) hP hD hK hS hA (fun z249 u250 H locs w251 hP hD hK hS => ?_)
          obtain ⟨V255, L256⟩ := u250
          obtain ⟨hMV255, ajV255, axL256, rgz249, t252, t253, t254⟩ := w251
          have axL256 : L83 = L256 := Eq.symm axL256
          subst axL256
          have hP : va_P D vwCl (mw ad kk ks.1 V255 L83) H := hP
          have hD : va_D A (mw ad kk ks.1 V255 L83) := hD
          have hMV255 : rgd bM V255 := hMV255
          have ajV255 : agr [(0, 48)] [45, 46, 47] V244 V255 := ajV255
          have agV255 : agr [(0, 7), (0, 8), (0, 48), (0, 50)] [35, 36, 37, 38, 45, 46, 47] V V255 := agV244.tr ajV255 (by decide) (by decide)
          have rgz249 : 0 ≤ z249.toInt ∧ z249.toInt ≤ 20000 := rgz249
          have t252 : (V255 0 48).toInt = (V244 0 48).toInt + 1 := t252
          have t253 : z249.toInt = (V244 0 49).toInt + (V244 0 48).toInt := t253
          have t254 : emitted V244 V255 (pA V244) 13 0 0 := t254
          have r257 : 0 ≤ ((V255 0 48)).toInt ∧ ((V255 0 48)).toInt ≤ 10000 := hMV255 0 48
          have pq258 : (V244 0 49).toInt = ((V 0 49)).toInt := congrArg Int32.toInt ((ajV244 0 49 rfl).trans ((ajV82 0 49 rfl).trans ((ajV66 0 49 rfl).trans ((ajV47 0 49 rfl).trans ((ajV29 0 49 rfl).trans (ajV8 0 49 rfl))))))
          refine lv_istore_n (lv' := [(2, .int z249), (1, .int z60), (0, .ref (ad 0))]) hx hb dX12_pick_43 rfl hl (by decide) rfl (fun ls hl => ?_)
          refine lv_aload_n hx hb dX12_pick_44 rfl (lv_at hl 2 rfl) ?_
          refine va_get (D := D) (ci := 12) (v := .ref (ad 46)) (C := RX12) (T := TX12) (N := 100) hx hb hg inX12 hown hK hP 0 rfl rfl 46 (by decide) (hg _ w1752) (fun _ h9 => h9) rfl dX12_pick_45 ?_
          refine lv_iload_n hx hb dX12_pick_48 rfl (lv_at hl 1 rfl) ?_
          refine lv_aload_n hx hb dX12_pick_49 rfl (lv_at hl 2 rfl) ?_
          refine va_get (D := D) (ci := 12) (v := .int (V255 0 49)) (C := RX12) (T := TX12) (N := 100) hx hb hg inX12 hown hK hP 0 rfl rfl 49 (by decide) (hg _ w1755) (fun _ h9 => h9) rfl dX12_pick_50 ?_
          refine g_top (v := (V 0 49)) ((ajV255 0 49 rfl).trans ((ajV244 0 49 rfl).trans ((ajV82 0 49 rfl).trans ((ajV66 0 49 rfl).trans ((ajV47 0 49 rfl).trans ((ajV29 0 49 rfl).trans (ajV8 0 49 rfl))))))) ?_
          refine lv_aload_n hx hb dX12_pick_53 rfl (lv_at hl 2 rfl) ?_
          refine va_get (D := D) (ci := 12) (v := .int (V255 0 48)) (C := RX12) (T := TX12) (N := 100) hx hb hg inX12 hown hK hP 0 rfl rfl 48 (by decide) (hg _ w1754) (fun _ h9 => h9) rfl dX12_pick_54 ?_
          refine lv_iadd hx hb dX12_pick_57 ?_
          refine lv_topi (fun z259 ez259 => ?_)
          have hz259 : z259.toInt = ((V 0 49)).toInt + ((V255 0 48)).toInt := i_add ez259 rfl rfl (by omega)
          refine va_iast (D := D) (i := z60) (x := z259) hx hb hK hP hD hS 39 38 rfl rfl (i_in (a := z60.toInt) rfl (by first | omega | ((try (have i_t77 := Imp.go t77 (by omega))); (try (have i_t24 := Imp.go t24 (by omega))); (try (have i_t24 := Imp.go t24 (by omega))); (try (have i_t77 := Imp.go t77 (by omega))); omega))) dX12_pick_58 (fun H locs hP hD hS => ?_)
          obtain ⟨V260, hV260⟩ : ∃ z, z = up2 V255 46 (Int32.toNatClampNeg z60) z259 := ⟨_, rfl⟩
          have hP : va_P D vwCl (mw ad kk ks.1 V260 L83) H := by rw [hV260]; exact hP
          have hD : va_D A (mw ad kk ks.1 V260 L83) := by rw [hV260]; exact hD
          have hMV260 : rgd bM V260 := hMV255.put hV260 (i_full _)
          have agV260 : agr [(0, 7), (0, 8), (0, 48), (0, 50)] [35, 36, 37, 38, 45, 46, 47] V V260 := agV255.up hV260 rfl
          refine lv_aload_n hx hb dX12_pick_59 rfl (lv_at hl 2 rfl) ?_
          have pq261 : (V260 0 8).toInt = ((V244 0 8)).toInt := congrArg Int32.toInt ((up2_o hV260 (by decide)).trans (ajV255 0 8 rfl))
          have pq262 : (V260 0 50).toInt = ((V82 0 50)).toInt := congrArg Int32.toInt ((up2_o hV260 (by decide)).trans ((ajV255 0 50 rfl).trans (ajV244 0 50 rfl)))
          refine gA_void (gA_runV (As := []) (rest := []) (ci := 12) (q0 := 0) hx hb hml hown hg hP hD hK hS hA hnw hgk (s_expressionB l D ks H.size ad kk V260 L83  hMV260 (show 1 ≤ (V260 0 8).toInt from by first | omega | ((try (have i_t77 := Imp.go t77 (by omega))); (try (have i_t24 := Imp.go t24 (by omega))); (try (have i_t24 := Imp.go t24 (by omega))); (try (have i_t77 := Imp.go t77 (by omega))); omega)) (show (V260 0 50).toInt ≤ 8 from by first | omega | ((try (have i_t77 := Imp.go t77 (by omega))); (try (have i_t24 := Imp.go t24 (by omega))); (try (have i_t24 := Imp.go t24 (by omega))); (try (have i_t77 := Imp.go t77 (by omega))); omega))) w2116 w2118 w106 w172 w2119 rfl rfl hdV_yX12_expression ⟨(by show 4 + 1 ≤ 10 * dd + 14; omega), (by show 8 + (3 + 11) + (86) ≤ 300 * dd + 460; omega)⟩ rfl hl.1 rfl (Nat.le_of_ble_eq_true rfl) dX12_pick_60 ⟨Nat.le_of_ble_eq_true rfl, Nat.le_of_ble_eq_true rfl⟩) hP hD hK hS hA (fun u264 H locs w265 hP hD hK hS => ?_)
          obtain ⟨V269, L270⟩ := u264
          obtain ⟨hMV269, ajV269, axL270, t266, t267, t268⟩ := w265
          have alL270 : agL [35, 36, 37, 38, 45, 46, 47] L L270 := agL.tr alL83 axL270 (by decide)
          have hP : va_P D vwCl (mw ad kk ks.1 V269 L270) H := hP
          have hD : va_D A (mw ad kk ks.1 V269 L270) := hD
          have hMV269 : rgd bM V269 := hMV269
          have ajV269 : agr [(0, 7), (0, 8), (0, 48), (0, 50)] [35, 36, 37, 38, 45, 46, 47] V260 V269 := ajV269
          have agV269 : agr [(0, 7), (0, 8), (0, 48), (0, 50)] [35, 36, 37, 38, 45, 46, 47] V V269 := agV260.tr ajV269 (by decide) (by decide)
          have t266 : (V269 0 48).toInt = (V260 0 48).toInt := t266
          have t267 : (V269 0 50).toInt = (V260 0 50).toInt := t267
          have t268 : (V269 0 8).toInt = (V260 0 8).toInt := t268
          have pq271 : (V260 0 48).toInt = ((V255 0 48)).toInt := congrArg Int32.toInt (up2_o hV260 (by decide))
          have r272 : 0 ≤ ((V269 0 48)).toInt ∧ ((V269 0 48)).toInt ≤ 10000 := hMV269 0 48
          have r273 : 0 ≤ ((V269 0 50)).toInt ∧ ((V269 0 50)).toInt ≤ 9 := hMV269 0 50
          have r274 : 0 ≤ ((V269 0 8)).toInt ∧ ((V269 0 8)).toInt ≤ 70000 := hMV269 0 8
          refine lv_aload_n hx hb dX12_pick_63 rfl (lv_at hl 2 rfl) ?_
          refine lv_bipush (v := 41) hx hb dX12_pick_64 (by decide) ?_
          have r275 : Int32.toInt 41 = 41 := by decide
          refine gA_void (gA_runV (As := [.int 41]) (rest := []) (ci := 12) (q0 := 0) hx hb hml hown hg hP hD hK hS hA hnw hgk (s_takeSignB l D ks H.size ad kk V269 L270 41 hMV269 (show 1 ≤ (V269 0 8).toInt from by first | omega | ((try (have i_t77 := Imp.go t77 (by omega))); (try (have i_t24 := Imp.go t24 (by omega))); (try (have i_t24 := Imp.go t24 (by omega))); (try (have i_t77 := Imp.go t77 (by omega))); omega))) w2075 w2077 w96 w172 w2078 rfl rfl hdV_yX12_takeSign ⟨(by show 1 + 1 ≤ 10 * dd + 14; omega), (by show 8 + (2 + 11) + (21) ≤ 300 * dd + 460; omega)⟩ rfl hl.1 rfl (Nat.le_of_ble_eq_true rfl) dX12_pick_66 ⟨Nat.le_of_ble_eq_true rfl, Nat.le_of_ble_eq_true rfl⟩) hP hD hK hS hA (fun u277 H locs w278 hP hD hK hS => ?_)
          obtain ⟨V280, L281⟩ := u277
          obtain ⟨hMV280, ajV280, axL281, t279⟩ := w278
          have axL281 : L270 = L281 := Eq.symm axL281
          subst axL281
          have hP : va_P D vwCl (mw ad kk ks.1 V280 L270) H := hP
          have hD : va_D A (mw ad kk ks.1 V280 L270) := hD
          have hMV280 : rgd bM V280 := hMV280
          have ajV280 : agr [(0, 7), (0, 8)] [] V269 V280 := ajV280
          have agV280 : agr [(0, 7), (0, 8), (0, 48), (0, 50)] [35, 36, 37, 38, 45, 46, 47] V V280 := agV269.tr ajV280 (by decide) (by decide)
          have t279 : (V280 0 8).toInt = (V269 0 8).toInt := t279
          have r282 : 0 ≤ ((V280 0 8)).toInt ∧ ((V280 0 8)).toInt ≤ 70000 := hMV280 0 8
          refine lv_aload_n hx hb dX12_pick_69 rfl (lv_at hl 2 rfl) ?_
          refine va_get (D := D) (ci := 12) (v := .ref (ad 46)) (C := RX12) (T := TX12) (N := 100) hx hb hg inX12 hown hK hP 0 rfl rfl 46 (by decide) (hg _ w1752) (fun _ h9 => h9) rfl dX12_pick_70 ?_
          refine lv_iload_n hx hb dX12_pick_73 rfl (lv_at hl 0 rfl) ?_
          refine lv_aload_n hx hb dX12_pick_74 rfl (lv_at hl 2 rfl) ?_
          refine va_get (D := D) (ci := 12) (v := .int (V280 0 49)) (C := RX12) (T := TX12) (N := 100) hx hb hg inX12 hown hK hP 0 rfl rfl 49 (by decide) (hg _ w1755) (fun _ h9 => h9) rfl dX12_pick_75 ?_
          refine g_top (v := (V 0 49)) ((ajV280 0 49 rfl).trans ((ajV269 0 49 rfl).trans ((up2_o hV260 (by decide)).trans ((ajV255 0 49 rfl).trans ((ajV244 0 49 rfl).trans ((ajV82 0 49 rfl).trans ((ajV66 0 49 rfl).trans ((ajV47 0 49 rfl).trans ((ajV29 0 49 rfl).trans (ajV8 0 49 rfl)))))))))) ?_
          refine lv_aload_n hx hb dX12_pick_78 rfl (lv_at hl 2 rfl) ?_
          refine va_get (D := D) (ci := 12) (v := .int (V280 0 48)) (C := RX12) (T := TX12) (N := 100) hx hb hg inX12 hown hK hP 0 rfl rfl 48 (by decide) (hg _ w1754) (fun _ h9 => h9) rfl dX12_pick_79 ?_
          refine g_top (v := (V269 0 48)) (ajV280 0 48 rfl) ?_
          refine lv_iadd hx hb dX12_pick_82 ?_
          refine lv_topi (fun z283 ez283 => ?_)
          have hz283 : z283.toInt = ((V 0 49)).toInt + ((V269 0 48)).toInt := i_add ez283 rfl rfl (by omega)
          refine va_iast (D := D) (i := z249) (x := z283) hx hb hK hP hD hS 39 38 rfl rfl (i_in (a := z249.toInt) rfl (by first | omega | ((try (have i_t77 := Imp.go t77 (by omega))); (try (have i_t24 := Imp.go t24 (by omega))); (try (have i_t24 := Imp.go t24 (by omega))); (try (have i_t77 := Imp.go t77 (by omega))); omega))) dX12_pick_83 (fun H locs hP hD hS => ?_)
          obtain ⟨V284, hV284⟩ : ∃ z, z = up2 V280 46 (Int32.toNatClampNeg z249) z283 := ⟨_, rfl⟩
          have hP : va_P D vwCl (mw ad kk ks.1 V284 L270) H := by rw [hV284]; exact hP
          have hD : va_D A (mw ad kk ks.1 V284 L270) := by rw [hV284]; exact hD
          have hMV284 : rgd bM V284 := hMV280.put hV284 (i_full _)
          have agV284 : agr [(0, 7), (0, 8), (0, 48), (0, 50)] [35, 36, 37, 38, 45, 46, 47] V V284 := agV280.up hV284 rfl
          have pq285 : (V284 0 7).toInt = ((V280 0 7)).toInt := congrArg Int32.toInt (up2_o hV284 (by decide))
          have pq286 : (V284 0 48).toInt = ((V269 0 48)).toInt := congrArg Int32.toInt ((up2_o hV284 (by decide)).trans (ajV280 0 48 rfl))
          have pq287 : (V284 0 8).toInt = ((V280 0 8)).toInt := congrArg Int32.toInt (up2_o hV284 (by decide))
          have pq288 : (V284 0 50).toInt = ((V269 0 50)).toInt := congrArg Int32.toInt ((up2_o hV284 (by decide)).trans (ajV280 0 50 rfl))
          exact W.vret hx hb hr (fun t ht hW => ⟨⟨(V284, L270), rfl, ⟨hMV284, agV284, alL270, (Imp.mk (fun hp => have hp : (V284 0 8).toInt = 0 := hp; (show (V284 0 48).toInt - (V 0 48).toInt ≤ 2 * ((V284 0 7).toInt - (V 0 7).toInt) from by first | omega | ((try (have i_t77 := Imp.go t77 (by omega))); (try (have i_t24 := Imp.go t24 (by omega))); (try (have i_t24 := Imp.go t24 (by omega))); (try (have i_t77 := Imp.go t77 (by omega))); omega)))), (show (V284 0 48).toInt ≤ 8053 - 6 * (V 0 50).toInt from by first | omega | ((try (have i_t77 := Imp.go t77 (by omega))); (try (have i_t24 := Imp.go t24 (by omega))); (try (have i_t24 := Imp.go t24 (by omega))); (try (have i_t77 := Imp.go t77 (by omega))); omega)), (show (V284 0 50).toInt = (V 0 50).toInt from by first | omega | ((try (have i_t77 := Imp.go t77 (by omega))); (try (have i_t24 := Imp.go t24 (by omega))); (try (have i_t24 := Imp.go t24 (by omega))); (try (have i_t77 := Imp.go t77 (by omega))); omega)), (show (V 0 48).toInt ≤ (V284 0 48).toInt from by first | omega | ((try (have i_t77 := Imp.go t77 (by omega))); (try (have i_t24 := Imp.go t24 (by omega))); (try (have i_t24 := Imp.go t24 (by omega))); (try (have i_t77 := Imp.go t77 (by omega))); omega)), (Or.inr ⟨(show 1 ≤ (V284 0 8).toInt from by omega), (fun k => by rw [show (V284 0 8).toInt = (V82 0 8).toInt from by omega]; exact hb239 k)⟩)⟩, by rw [ht]; exact hP, va_K.moved hW.alike hK, hD⟩, hS.F ht⟩) hS.2.2 dX12_pick_84
      · skip
        have kd289 : gT.1 (sx35.1 0) ≠ 44 := fun h9 => h50 (h9.trans (by decide))
        have hb290 : ∀ k, Rc gT (Crun gs (Itake 40 :: Iexpr gd :: Itake 44 :: Iexpr gd :: Itake 44 :: Iexpr gd :: Itake 41 :: k)) (Cbad (V47 0 8).toInt) := fun k => Rc.go1 (hr39 k) ((tk_n kd289).trans (fl_eq rfl rl51))
        have r291 : 0 ≤ ((V47 0 8)).toInt ∧ ((V47 0 8)).toInt ≤ 70000 := hMV47 0 8
        refine lv_aload_n hx hb dX12_pick_16 rfl (lv_at hl 0 rfl) ?_
        refine lv_bipush (v := 12) hx hb dX12_pick_17 (by decide) ?_
        refine lv_iconst (v := 0) hx hb dX12_pick_19 (by decide) ?_
        refine lv_iconst (v := 0) hx hb dX12_pick_20 (by decide) ?_
        have r292 : Int32.toInt 12 = 12 := by decide
        have r293 : Int32.toInt 0 = 0 := by decide
        have pq294 : (V47 0 48).toInt = ((V29 0 48)).toInt := congrArg Int32.toInt (ajV47 0 48 rfl)
        refine gA_int (gA_runV (As := [.int 12, .int 0, .int 0]) (rest := []) (ci := 12) (q0 := 0) hx hb hml hown hg hP hD hK hS hA hnw hgk (s_emit3 l D ks H.size ad kk V47 L30 12 0 0 hMV47 (show (V47 0 48).toInt ≤ 9999 from by first | omega | ((try (have i_t24 := Imp.go t24 (by omega))); omega))) w2136 w2138 w111 w172 w2139 rfl rfl hdV_yX12_emit ⟨(by show 0 + 1 ≤ 10 * dd + 14; omega), (by show 8 + (4 + 11) + (0) ≤ 300 * dd + 460; omega)⟩ rfl hl.1 rfl (Nat.le_of_ble_eq_true rfl) dX12_pick_21 ⟨Nat.le_of_ble_eq_true rfl, Nat.le_of_ble_eq_true rfl⟩) hP hD hK hS hA (fun z295 u296 H locs w297 hP hD hK hS => ?_)
        obtain ⟨V301, L302⟩ := u296
        obtain ⟨hMV301, ajV301, axL302, rgz295, t298, t299, t300⟩ := w297
        have axL302 : L30 = L302 := Eq.symm axL302
        subst axL302
        have hP : va_P D vwCl (mw ad kk ks.1 V301 L30) H := hP
        have hD : va_D A (mw ad kk ks.1 V301 L30) := hD
        have hMV301 : rgd bM V301 := hMV301
        have ajV301 : agr [(0, 48)] [45, 46, 47] V47 V301 := ajV301
        have agV301 : agr [(0, 7), (0, 8), (0, 48), (0, 50)] [35, 36, 37, 38, 45, 46, 47] V V301 := agV47.tr ajV301 (by decide) (by decide)
        have rgz295 : 0 ≤ z295.toInt ∧ z295.toInt ≤ 20000 := rgz295
        have t298 : (V301 0 48).toInt = (V47 0 48).toInt + 1 := t298
        have t299 : z295.toInt = (V47 0 49).toInt + (V47 0 48).toInt := t299
        have t300 : emitted V47 V301 (pA V47) 12 0 0 := t300
        have r303 : 0 ≤ ((V301 0 48)).toInt ∧ ((V301 0 48)).toInt ≤ 10000 := hMV301 0 48
        have pq304 : (V47 0 49).toInt = ((V 0 49)).toInt := congrArg Int32.toInt ((ajV47 0 49 rfl).trans ((ajV29 0 49 rfl).trans (ajV8 0 49 rfl)))
        have r305 : 0 ≤ ((V 0 49)).toInt ∧ ((V 0 49)).toInt ≤ 10000 := hMV 0 49
        refine lv_istore_n (lv' := [(1, .int z295), (0, .ref (ad 0))]) hx hb dX12_pick_24 rfl hl (by decide) rfl (fun ls hl => ?_)
        refine lv_aload_n hx hb dX12_pick_25 rfl (lv_at hl 1 rfl) ?_
        have pq306 : (V301 0 8).toInt = ((V47 0 8)).toInt := congrArg Int32.toInt (ajV301 0 8 rfl)
        have pq307 : (V301 0 50).toInt = ((V29 0 50)).toInt := congrArg Int32.toInt ((ajV301 0 50 rfl).trans (ajV47 0 50 rfl))
        refine gA_void (gA_runV (As := []) (rest := []) (ci := 12) (q0 := 0) hx hb hml hown hg hP hD hK hS hA hnw hgk (s_expressionB l D ks H.size ad kk V301 L30  hMV301 (show 1 ≤ (V301 0 8).toInt from by first | omega | ((try (have i_t24 := Imp.go t24 (by omega))); omega)) (show (V301 0 50).toInt ≤ 8 from by first | omega | ((try (have i_t24 := Imp.go t24 (by omega))); omega))) w2116 w2118 w106 w172 w2119 rfl rfl hdV_yX12_expression ⟨(by show 4 + 1 ≤ 10 * dd + 14; omega), (by show 8 + (3 + 11) + (86) ≤ 300 * dd + 460; omega)⟩ rfl hl.1 rfl (Nat.le_of_ble_eq_true rfl) dX12_pick_26 ⟨Nat.le_of_ble_eq_true rfl, Nat.le_of_ble_eq_true rfl⟩) hP hD hK hS hA (fun u309 H locs w310 hP hD hK hS => ?_)
        obtain ⟨V314, L315⟩ := u309
        obtain ⟨hMV314, ajV314, axL315, t311, t312, t313⟩ := w310
        have alL315 : agL [35, 36, 37, 38, 45, 46, 47] L L315 := agL.tr alL30 axL315 (by decide)
        have hP : va_P D vwCl (mw ad kk ks.1 V314 L315) H := hP
        have hD : va_D A (mw ad kk ks.1 V314 L315) := hD
        have hMV314 : rgd bM V314 := hMV314
        have ajV314 : agr [(0, 7), (0, 8), (0, 48), (0, 50)] [35, 36, 37, 38, 45, 46, 47] V301 V314 := ajV314
        have agV314 : agr [(0, 7), (0, 8), (0, 48), (0, 50)] [35, 36, 37, 38, 45, 46, 47] V V314 := agV301.tr ajV314 (by decide) (by decide)
        have t311 : (V314 0 48).toInt = (V301 0 48).toInt := t311
        have t312 : (V314 0 50).toInt = (V301 0 50).toInt := t312
        have t313 : (V314 0 8).toInt = (V301 0 8).toInt := t313
        have r316 : 0 ≤ ((V314 0 48)).toInt ∧ ((V314 0 48)).toInt ≤ 10000 := hMV314 0 48
        have r317 : 0 ≤ ((V314 0 50)).toInt ∧ ((V314 0 50)).toInt ≤ 9 := hMV314 0 50
        have r318 : 0 ≤ ((V314 0 8)).toInt ∧ ((V314 0 8)).toInt ≤ 70000 := hMV314 0 8
        refine lv_aload_n hx hb dX12_pick_29 rfl (lv_at hl 1 rfl) ?_
        refine lv_bipush (v := 44) hx hb dX12_pick_30 (by decide) ?_
        refine gA_void (gA_runV (As := [.int 44]) (rest := []) (ci := 12) (q0 := 0) hx hb hml hown hg hP hD hK hS hA hnw hgk (s_takeSignB l D ks H.size ad kk V314 L315 44 hMV314 (show 1 ≤ (V314 0 8).toInt from by first | omega | ((try (have i_t24 := Imp.go t24 (by omega))); omega))) w2075 w2077 w96 w172 w2078 rfl rfl hdV_yX12_takeSign ⟨(by show 1 + 1 ≤ 10 * dd + 14; omega), (by show 8 + (2 + 11) + (21) ≤ 300 * dd + 460; omega)⟩ rfl hl.1 rfl (Nat.le_of_ble_eq_true rfl) dX12_pick_32 ⟨Nat.le_of_ble_eq_true rfl, Nat.le_of_ble_eq_true rfl⟩) hP hD hK hS hA (fun u320 H locs w321 hP hD hK hS => ?_)
        obtain ⟨V323, L324⟩ := u320
        obtain ⟨hMV323, ajV323, axL324, t322⟩ := w321
        have axL324 : L315 = L324 := Eq.symm axL324
        subst axL324
        have hP : va_P D vwCl (mw ad kk ks.1 V323 L315) H := hP
        have hD : va_D A (mw ad kk ks.1 V323 L315) := hD
        have hMV323 : rgd bM V323 := hMV323
        have ajV323 : agr [(0, 7), (0, 8)] [] V314 V323 := ajV323
        have agV323 : agr [(0, 7), (0, 8), (0, 48), (0, 50)] [35, 36, 37, 38, 45, 46, 47] V V323 := agV314.tr ajV323 (by decide) (by decide)
        have t322 : (V323 0 8).toInt = (V314 0 8).toInt := t322
        have r325 : 0 ≤ ((V323 0 8)).toInt ∧ ((V323 0 8)).toInt ≤ 70000 := hMV323 0 8
        refine lv_aload_n hx hb dX12_pick_35 rfl (lv_at hl 1 rfl) ?_
        refine lv_bipush (v := 13) hx hb dX12_pick_36 (by decide) ?_
        refine lv_iconst (v := 0) hx hb dX12_pick_38 (by decide) ?_
        refine lv_iconst (v := 0) hx hb dX12_pick_39 (by decide) ?_
        have r326 : Int32.toInt 13 = 13 := by decide
        have pq327 : (V323 0 48).toInt = ((V314 0 48)).toInt := congrArg Int32.toInt (ajV323 0 48 rfl)
        refine gA_int (gA_runV (As := [.int 13, .int 0, .int 0]) (rest := []) (ci := 12) (q0 := 0) hx hb hml hown hg hP hD hK hS hA hnw hgk (s_emit3 l D ks H.size ad kk V323 L315 13 0 0 hMV323 (show (V323 0 48).toInt ≤ 9999 from by first | omega | ((try (have i_t24 := Imp.go t24 (by omega))); omega))) w2136 w2138 w111 w172 w2139 rfl rfl hdV_yX12_emit ⟨(by show 0 + 1 ≤ 10 * dd + 14; omega), (by show 8 + (4 + 11) + (0) ≤ 300 * dd + 460; omega)⟩ rfl hl.1 rfl (Nat.le_of_ble_eq_true rfl) dX12_pick_40 ⟨Nat.le_of_ble_eq_true rfl, Nat.le_of_ble_eq_true rfl⟩) hP hD hK hS hA (fun z328 u329 H locs w330 hP hD hK hS => ?_)
        obtain ⟨V334, L335⟩ := u329
        obtain ⟨hMV334, ajV334, axL335, rgz328, t331, t332, t333⟩ := w330
        have axL335 : L315 = L335 := Eq.symm axL335
        subst axL335
        have hP : va_P D vwCl (mw ad kk ks.1 V334 L315) H := hP
        have hD : va_D A (mw ad kk ks.1 V334 L315) := hD
        have hMV334 : rgd bM V334 := hMV334
        have ajV334 : agr [(0, 48)] [45, 46, 47] V323 V334 := ajV334
        have agV334 : agr [(0, 7), (0, 8), (0, 48), (0, 50)] [35, 36, 37, 38, 45, 46, 47] V V334 := agV323.tr ajV334 (by decide) (by decide)
        have rgz328 : 0 ≤ z328.toInt ∧ z328.toInt ≤ 20000 := rgz328
        have t331 : (V334 0 48).toInt = (V323 0 48).toInt + 1 := t331
        have t332 : z328.toInt = (V323 0 49).toInt + (V323 0 48).toInt := t332
        have t333 : emitted V323 V334 (pA V323) 13 0 0 := t333
        have r336 : 0 ≤ ((V334 0 48)).toInt ∧ ((V334 0 48)).toInt ≤ 10000 := hMV334 0 48
        have pq337 : (V323 0 49).toInt = ((V 0 49)).toInt := congrArg Int32.toInt ((ajV323 0 49 rfl).trans ((ajV314 0 49 rfl).trans ((ajV301 0 49 rfl).trans ((ajV47 0 49 rfl).trans ((ajV29 0 49 rfl).trans (ajV8 0 49 rfl))))))
        refine lv_istore_n (lv' := [(2, .int z328), (1, .int z295), (0, .ref (ad 0))]) hx hb dX12_pick_43 rfl hl (by decide) rfl (fun ls hl => ?_)
        refine lv_aload_n hx hb dX12_pick_44 rfl (lv_at hl 2 rfl) ?_
        refine va_get (D := D) (ci := 12) (v := .ref (ad 46)) (C := RX12) (T := TX12) (N := 100) hx hb hg inX12 hown hK hP 0 rfl rfl 46 (by decide) (hg _ w1752) (fun _ h9 => h9) rfl dX12_pick_45 ?_
        refine lv_iload_n hx hb dX12_pick_48 rfl (lv_at hl 1 rfl) ?_
        refine lv_aload_n hx hb dX12_pick_49 rfl (lv_at hl 2 rfl) ?_
        refine va_get (D := D) (ci := 12) (v := .int (V334 0 49)) (C := RX12) (T := TX12) (N := 100) hx hb hg inX12 hown hK hP 0 rfl rfl 49 (by decide) (hg _ w1755) (fun _ h9 => h9) rfl dX12_pick_50 ?_
        refine g_top (v := (V 0 49)) ((ajV334 0 49 rfl).trans ((ajV323 0 49 rfl).trans ((ajV314 0 49 rfl).trans ((ajV301 0 49 rfl).trans ((ajV47 0 49 rfl).trans ((ajV29 0 49 rfl).trans (ajV8 0 49 rfl))))))) ?_
        refine lv_aload_n hx hb dX12_pick_53 rfl (lv_at hl 2 rfl) ?_
        refine va_get (D := D) (ci := 12) (v := .int (V334 0 48)) (C := RX12) (T := TX12) (N := 100) hx hb hg inX12 hown hK hP 0 rfl rfl 48 (by decide) (hg _ w1754) (fun _ h9 => h9) rfl dX12_pick_54 ?_
        refine lv_iadd hx hb dX12_pick_57 ?_
        refine lv_topi (fun z338 ez338 => ?_)
        have hz338 : z338.toInt = ((V 0 49)).toInt + ((V334 0 48)).toInt := i_add ez338 rfl rfl (by omega)
        refine va_iast (D := D) (i := z295) (x := z338) hx hb hK hP hD hS 39 38 rfl rfl (i_in (a := z295.toInt) rfl (by first | omega | ((try (have i_t24 := Imp.go t24 (by omega))); omega))) dX12_pick_58 (fun H locs hP hD hS => ?_)
        obtain ⟨V339, hV339⟩ : ∃ z, z = up2 V334 46 (Int32.toNatClampNeg z295) z338 := ⟨_, rfl⟩
        have hP : va_P D vwCl (mw ad kk ks.1 V339 L315) H := by rw [hV339]; exact hP
        have hD : va_D A (mw ad kk ks.1 V339 L315) := by rw [hV339]; exact hD
        have hMV339 : rgd bM V339 := hMV334.put hV339 (i_full _)
        have agV339 : agr [(0, 7), (0, 8), (0, 48), (0, 50)] [35, 36, 37, 38, 45, 46, 47] V V339 := agV334.up hV339 rfl
        refine lv_aload_n hx hb dX12_pick_59 rfl (lv_at hl 2 rfl) ?_
        have pq340 : (V339 0 8).toInt = ((V323 0 8)).toInt := congrArg Int32.toInt ((up2_o hV339 (by decide)).trans (ajV334 0 8 rfl))
        have pq341 : (V339 0 50).toInt = ((V314 0 50)).toInt := congrArg Int32.toInt ((up2_o hV339 (by decide)).trans ((ajV334 0 50 rfl).trans (ajV323 0 50 rfl)))
        refine gA_void (gA_runV (As := []) (rest := []) (ci := 12) (q0 := 0) hx hb hml hown hg hP hD hK hS hA hnw hgk (s_expressionB l D ks H.size ad kk V339 L315  hMV339 (show 1 ≤ (V339 0 8).toInt from by first | omega | ((try (have i_t24 := Imp.go t24 (by omega))); omega)) (show (V339 0 50).toInt ≤ 8 from by first | omega | ((try (have i_t24 := Imp.go t24 (by omega))); omega))) w2116 w2118 w106 w172 w2119 rfl rfl hdV_yX12_expression ⟨(by show 4 + 1 ≤ 10 * dd + 14; omega), (by show 8 + (3 + 11) + (86) ≤ 300 * dd + 460; omega)⟩ rfl hl.1 rfl (Nat.le_of_ble_eq_true rfl) dX12_pick_60 ⟨Nat.le_of_ble_eq_true rfl, Nat.le_of_ble_eq_true rfl⟩) hP hD hK hS hA (fun u343 H locs w344 hP hD hK hS => ?_)
        obtain ⟨V348, L349⟩ := u343
        obtain ⟨hMV348, ajV348, axL349, t345, t346, t347⟩ := w344
        have alL349 : agL [35, 36, 37, 38, 45, 46, 47] L L349 := agL.tr alL315 axL349 (by decide)
        have hP : va_P D vwCl (mw ad kk ks.1 V348 L349) H := hP
        have hD : va_D A (mw ad kk ks.1 V348 L349) := hD
        have hMV348 : rgd bM V348 := hMV348
        have ajV348 : agr [(0, 7), (0, 8), (0, 48), (0, 50)] [35, 36, 37, 38, 45, 46, 47] V339 V348 := ajV348
        have agV348 : agr [(0, 7), (0, 8), (0, 48), (0, 50)] [35, 36, 37, 38, 45, 46, 47] V V348 := agV339.tr ajV348 (by decide) (by decide)
        have t345 : (V348 0 48).toInt = (V339 0 48).toInt := t345
        have t346 : (V348 0 50).toInt = (V339 0 50).toInt := t346
        have t347 : (V348 0 8).toInt = (V339 0 8).toInt := t347
        have pq350 : (V339 0 48).toInt = ((V334 0 48)).toInt := congrArg Int32.toInt (up2_o hV339 (by decide))
        have r351 : 0 ≤ ((V348 0 48)).toInt ∧ ((V348 0 48)).toInt ≤ 10000 := hMV348 0 48
        have r352 : 0 ≤ ((V348 0 50)).toInt ∧ ((V348 0 50)).toInt ≤ 9 := hMV348 0 50
        have r353 : 0 ≤ ((V348 0 8)).toInt ∧ ((V348 0 8)).toInt ≤ 70000 := hMV348 0 8
        refine lv_aload_n hx hb dX12_pick_63 rfl (lv_at hl 2 rfl) ?_
        refine lv_bipush (v := 41) hx hb dX12_pick_64 (by decide) ?_
        have r354 : Int32.toInt 41 = 41 := by decide
        refine gA_void (gA_runV (As := [.int 41]) (rest := []) (ci := 12) (q0 := 0) hx hb hml hown hg hP hD hK hS hA hnw hgk (s_takeSignB l D ks H.size ad kk V348 L349 41 hMV348 (show 1 ≤ (V348 0 8).toInt from by first | omega | ((try (have i_t24 := Imp.go t24 (by omega))); omega))) w2075 w2077 w96 w172 w2078 rfl rfl hdV_yX12_takeSign ⟨(by show 1 + 1 ≤ 10 * dd + 14; omega), (by show 8 + (2 + 11) + (21) ≤ 300 * dd + 460; omega)⟩ rfl hl.1 rfl (Nat.le_of_ble_eq_true rfl) dX12_pick_66 ⟨Nat.le_of_ble_eq_true rfl, Nat.le_of_ble_eq_true rfl⟩) hP hD hK hS hA (fun u356 H locs w357 hP hD hK hS => ?_)
        obtain ⟨V359, L360⟩ := u356
        obtain ⟨hMV359, ajV359, axL360, t358⟩ := w357
        have axL360 : L349 = L360 := Eq.symm axL360
        subst axL360
        have hP : va_P D vwCl (mw ad kk ks.1 V359 L349) H := hP
        have hD : va_D A (mw ad kk ks.1 V359 L349) := hD
        have hMV359 : rgd bM V359 := hMV359
        have ajV359 : agr [(0, 7), (0, 8)] [] V348 V359 := ajV359
        have agV359 : agr [(0, 7), (0, 8), (0, 48), (0, 50)] [35, 36, 37, 38, 45, 46, 47] V V359 := agV348.tr ajV359 (by decide) (by decide)
        have t358 : (V359 0 8).toInt = (V348 0 8).toInt := t358
        have r361 : 0 ≤ ((V359 0 8)).toInt ∧ ((V359 0 8)).toInt ≤ 70000 := hMV359 0 8
        refine lv_aload_n hx hb dX12_pick_69 rfl (lv_at hl 2 rfl) ?_
        refine va_get (D := D) (ci := 12) (v := .ref (ad 46)) (C := RX12) (T := TX12) (N := 100) hx hb hg inX12 hown hK hP 0 rfl rfl 46 (by decide) (hg _ w1752) (fun _ h9 => h9) rfl dX12_pick_70 ?_
        refine lv_iload_n hx hb dX12_pick_73 rfl (lv_at hl 0 rfl) ?_
        refine lv_aload_n hx hb dX12_pick_74 rfl (lv_at hl 2 rfl) ?_
        refine va_get (D := D) (ci := 12) (v := .int (V359 0 49)) (C := RX12) (T := TX12) (N := 100) hx hb hg inX12 hown hK hP 0 rfl rfl 49 (by decide) (hg _ w1755) (fun _ h9 => h9) rfl dX12_pick_75 ?_
        refine g_top (v := (V 0 49)) ((ajV359 0 49 rfl).trans ((ajV348 0 49 rfl).trans ((up2_o hV339 (by decide)).trans ((ajV334 0 49 rfl).trans ((ajV323 0 49 rfl).trans ((ajV314 0 49 rfl).trans ((ajV301 0 49 rfl).trans ((ajV47 0 49 rfl).trans ((ajV29 0 49 rfl).trans (ajV8 0 49 rfl)))))))))) ?_
        refine lv_aload_n hx hb dX12_pick_78 rfl (lv_at hl 2 rfl) ?_
        refine va_get (D := D) (ci := 12) (v := .int (V359 0 48)) (C := RX12) (T := TX12) (N := 100) hx hb hg inX12 hown hK hP 0 rfl rfl 48 (by decide) (hg _ w1754) (fun _ h9 => h9) rfl dX12_pick_79 ?_
        refine g_top (v := (V348 0 48)) (ajV359 0 48 rfl) ?_
        refine lv_iadd hx hb dX12_pick_82 ?_
        refine lv_topi (fun z362 ez362 => ?_)
        have hz362 : z362.toInt = ((V 0 49)).toInt + ((V348 0 48)).toInt := i_add ez362 rfl rfl (by omega)
        refine va_iast (D := D) (i := z328) (x := z362) hx hb hK hP hD hS 39 38 rfl rfl (i_in (a := z328.toInt) rfl (by first | omega | ((try (have i_t24 := Imp.go t24 (by omega))); omega))) dX12_pick_83 (fun H locs hP hD hS => ?_)
        obtain ⟨V363, hV363⟩ : ∃ z, z = up2 V359 46 (Int32.toNatClampNeg z328) z362 := ⟨_, rfl⟩
        have hP : va_P D vwCl (mw ad kk ks.1 V363 L349) H := by rw [hV363]; exact hP
        have hD : va_D A (mw ad kk ks.1 V363 L349) := by rw [hV363]; exact hD
        have hMV363 : rgd bM V363 := hMV359.put hV363 (i_full _)
        have agV363 : agr [(0, 7), (0, 8), (0, 48), (0, 50)] [35, 36, 37, 38, 45, 46, 47] V V363 := agV359.up hV363 rfl
        have pq364 : (V363 0 7).toInt = ((V359 0 7)).toInt := congrArg Int32.toInt (up2_o hV363 (by decide))
        have pq365 : (V363 0 48).toInt = ((V348 0 48)).toInt := congrArg Int32.toInt ((up2_o hV363 (by decide)).trans (ajV359 0 48 rfl))
        have pq366 : (V363 0 8).toInt = ((V359 0 8)).toInt := congrArg Int32.toInt (up2_o hV363 (by decide))
        have pq367 : (V363 0 50).toInt = ((V348 0 50)).toInt := congrArg Int32.toInt ((up2_o hV363 (by decide)).trans (ajV359 0 50 rfl))
        exact W.vret hx hb hr (fun t ht hW => ⟨⟨(V363, L349), rfl, ⟨hMV363, agV363, alL349, (Imp.mk (fun hp => have hp : (V363 0 8).toInt = 0 := hp; (show (V363 0 48).toInt - (V 0 48).toInt ≤ 2 * ((V363 0 7).toInt - (V 0 7).toInt) from by first | omega | ((try (have i_t24 := Imp.go t24 (by omega))); omega)))), (show (V363 0 48).toInt ≤ 8053 - 6 * (V 0 50).toInt from by first | omega | ((try (have i_t24 := Imp.go t24 (by omega))); omega)), (show (V363 0 50).toInt = (V 0 50).toInt from by first | omega | ((try (have i_t24 := Imp.go t24 (by omega))); omega)), (show (V 0 48).toInt ≤ (V363 0 48).toInt from by first | omega | ((try (have i_t24 := Imp.go t24 (by omega))); omega)), (Or.inr ⟨(show 1 ≤ (V363 0 8).toInt from by omega), (fun k => by rw [show (V363 0 8).toInt = (V47 0 8).toInt from by omega]; exact hb290 k)⟩)⟩, by rw [ht]; exact hP, va_K.moved hW.alike hK, hD⟩, hS.F ht⟩) hS.2.2 dX12_pick_84
    · skip
      have hb368 : ∀ k, Rc gT (Crun gs (Itake 40 :: Iexpr gd :: Itake 44 :: Iexpr gd :: Itake 44 :: Iexpr gd :: Itake 41 :: k)) (Cbad (V29 0 8).toInt) := fun k => (hr15 k).tr (h36 (Itake 44 :: Iexpr gd :: Itake 44 :: Iexpr gd :: Itake 41 :: k))
      refine lv_aload_n hx hb dX12_pick_10 rfl (lv_at hl 0 rfl) ?_
      refine lv_bipush (v := 44) hx hb dX12_pick_11 (by decide) ?_
      have r369 : Int32.toInt 44 = 44 := by decide
      refine gA_void (gA_runV (As := [.int 44]) (rest := []) (ci := 12) (q0 := 0) hx hb hml hown hg hP hD hK hS hA hnw hgk (s_takeSignB l D ks H.size ad kk V29 L30 44 hMV29 (show 1 ≤ (V29 0 8).toInt from by first | omega | ((try (have i_t24 := Imp.go t24 (by omega))); omega))) w2075 w2077 w96 w172 w2078 rfl rfl hdV_yX12_takeSign ⟨(by show 1 + 1 ≤ 10 * dd + 14; omega), (by show 8 + (2 + 11) + (21) ≤ 300 * dd + 460; omega)⟩ rfl hl.1 rfl (Nat.le_of_ble_eq_true rfl) dX12_pick_13 ⟨Nat.le_of_ble_eq_true rfl, Nat.le_of_ble_eq_true rfl⟩) hP hD hK hS hA (fun u371 H locs w372 hP hD hK hS => ?_)
      obtain ⟨V374, L375⟩ := u371
      obtain ⟨hMV374, ajV374, axL375, t373⟩ := w372
      have axL375 : L30 = L375 := Eq.symm axL375
      subst axL375
      have hP : va_P D vwCl (mw ad kk ks.1 V374 L30) H := hP
      have hD : va_D A (mw ad kk ks.1 V374 L30) := hD
      have hMV374 : rgd bM V374 := hMV374
      have ajV374 : agr [(0, 7), (0, 8)] [] V29 V374 := ajV374
      have agV374 : agr [(0, 7), (0, 8), (0, 48), (0, 50)] [35, 36, 37, 38, 45, 46, 47] V V374 := agV29.tr ajV374 (by decide) (by decide)
      have t373 : (V374 0 8).toInt = (V29 0 8).toInt := t373
      have r376 : 0 ≤ ((V374 0 8)).toInt ∧ ((V374 0 8)).toInt ≤ 70000 := hMV374 0 8
      refine lv_aload_n hx hb dX12_pick_16 rfl (lv_at hl 0 rfl) ?_
      refine lv_bipush (v := 12) hx hb dX12_pick_17 (by decide) ?_
      refine lv_iconst (v := 0) hx hb dX12_pick_19 (by decide) ?_
      refine lv_iconst (v := 0) hx hb dX12_pick_20 (by decide) ?_
      have r377 : Int32.toInt 12 = 12 := by decide
      have r378 : Int32.toInt 0 = 0 := by decide
      have pq379 : (V374 0 48).toInt = ((V29 0 48)).toInt := congrArg Int32.toInt (ajV374 0 48 rfl)
      refine gA_int (gA_runV (As := [.int 12, .int 0, .int 0]) (rest := []) (ci := 12) (q0 := 0) hx hb hml hown hg hP hD hK hS hA hnw hgk (s_emit3 l D ks H.size ad kk V374 L30 12 0 0 hMV374 (show (V374 0 48).toInt ≤ 9999 from by first | omega | ((try (have i_t24 := Imp.go t24 (by omega))); omega))) w2136 w2138 w111 w172 w2139 rfl rfl hdV_yX12_emit ⟨(by show 0 + 1 ≤ 10 * dd + 14; omega), (by show 8 + (4 + 11) + (0) ≤ 300 * dd + 460; omega)⟩ rfl hl.1 rfl (Nat.le_of_ble_eq_true rfl) dX12_pick_21 ⟨Nat.le_of_ble_eq_true rfl, Nat.le_of_ble_eq_true rfl⟩) hP hD hK hS hA (fun z380 u381 H locs w382 hP hD hK hS => ?_)
      obtain ⟨V386, L387⟩ := u381
      obtain ⟨hMV386, ajV386, axL387, rgz380, t383, t384, t385⟩ := w382
      have axL387 : L30 = L387 := Eq.symm axL387
      subst axL387
      have hP : va_P D vwCl (mw ad kk ks.1 V386 L30) H := hP
      have hD : va_D A (mw ad kk ks.1 V386 L30) := hD
      have hMV386 : rgd bM V386 := hMV386
      have ajV386 : agr [(0, 48)] [45, 46, 47] V374 V386 := ajV386
      have agV386 : agr [(0, 7), (0, 8), (0, 48), (0, 50)] [35, 36, 37, 38, 45, 46, 47] V V386 := agV374.tr ajV386 (by decide) (by decide)
      have rgz380 : 0 ≤ z380.toInt ∧ z380.toInt ≤ 20000 := rgz380
      have t383 : (V386 0 48).toInt = (V374 0 48).toInt + 1 := t383
      have t384 : z380.toInt = (V374 0 49).toInt + (V374 0 48).toInt := t384
      have t385 : emitted V374 V386 (pA V374) 12 0 0 := t385
      have r388 : 0 ≤ ((V386 0 48)).toInt ∧ ((V386 0 48)).toInt ≤ 10000 := hMV386 0 48
      have pq389 : (V374 0 49).toInt = ((V 0 49)).toInt := congrArg Int32.toInt ((ajV374 0 49 rfl).trans ((ajV29 0 49 rfl).trans (ajV8 0 49 rfl)))
      have r390 : 0 ≤ ((V 0 49)).toInt ∧ ((V 0 49)).toInt ≤ 10000 := hMV 0 49
      refine lv_istore_n (lv' := [(1, .int z380), (0, .ref (ad 0))]) hx hb dX12_pick_24 rfl hl (by decide) rfl (fun ls hl => ?_)
      refine lv_aload_n hx hb dX12_pick_25 rfl (lv_at hl 1 rfl) ?_
      have pq391 : (V386 0 8).toInt = ((V374 0 8)).toInt := congrArg Int32.toInt (ajV386 0 8 rfl)
      have pq392 : (V386 0 50).toInt = ((V29 0 50)).toInt := congrArg Int32.toInt ((ajV386 0 50 rfl).trans (ajV374 0 50 rfl))
      refine gA_void (gA_runV (As := []) (rest := []) (ci := 12) (q0 := 0) hx hb hml hown hg hP hD hK hS hA hnw hgk (s_expressionB l D ks H.size ad kk V386 L30  hMV386 (show 1 ≤ (V386 0 8).toInt from by first | omega | ((try (have i_t24 := Imp.go t24 (by omega))); omega)) (show (V386 0 50).toInt ≤ 8 from by first | omega | ((try (have i_t24 := Imp.go t24 (by omega))); omega))) w2116 w2118 w106 w172 w2119 rfl rfl hdV_yX12_expression ⟨(by show 4 + 1 ≤ 10 * dd + 14; omega), (by show 8 + (3 + 11) + (86) ≤ 300 * dd + 460; omega)⟩ rfl hl.1 rfl (Nat.le_of_ble_eq_true rfl) dX12_pick_26 ⟨Nat.le_of_ble_eq_true rfl, Nat.le_of_ble_eq_true rfl⟩) hP hD hK hS hA (fun u394 H locs w395 hP hD hK hS => ?_)
      obtain ⟨V399, L400⟩ := u394
      obtain ⟨hMV399, ajV399, axL400, t396, t397, t398⟩ := w395
      have alL400 : agL [35, 36, 37, 38, 45, 46, 47] L L400 := agL.tr alL30 axL400 (by decide)
      have hP : va_P D vwCl (mw ad kk ks.1 V399 L400) H := hP
      have hD : va_D A (mw ad kk ks.1 V399 L400) := hD
      have hMV399 : rgd bM V399 := hMV399
      have ajV399 : agr [(0, 7), (0, 8), (0, 48), (0, 50)] [35, 36, 37, 38, 45, 46, 47] V386 V399 := ajV399
      have agV399 : agr [(0, 7), (0, 8), (0, 48), (0, 50)] [35, 36, 37, 38, 45, 46, 47] V V399 := agV386.tr ajV399 (by decide) (by decide)
      have t396 : (V399 0 48).toInt = (V386 0 48).toInt := t396
      have t397 : (V399 0 50).toInt = (V386 0 50).toInt := t397
      have t398 : (V399 0 8).toInt = (V386 0 8).toInt := t398
      have r401 : 0 ≤ ((V399 0 48)).toInt ∧ ((V399 0 48)).toInt ≤ 10000 := hMV399 0 48
      have r402 : 0 ≤ ((V399 0 50)).toInt ∧ ((V399 0 50)).toInt ≤ 9 := hMV399 0 50
      have r403 : 0 ≤ ((V399 0 8)).toInt ∧ ((V399 0 8)).toInt ≤ 70000 := hMV399 0 8
      refine lv_aload_n hx hb dX12_pick_29 rfl (lv_at hl 1 rfl) ?_
      refine lv_bipush (v := 44) hx hb dX12_pick_30 (by decide) ?_
      refine gA_void (gA_runV (As := [.int 44]) (rest := []) (ci := 12) (q0 := 0) hx hb hml hown hg hP hD hK hS hA hnw hgk (s_takeSignB l D ks H.size ad kk V399 L400 44 hMV399 (show 1 ≤ (V399 0 8).toInt from by first | omega | ((try (have i_t24 := Imp.go t24 (by omega))); omega))) w2075 w2077 w96 w172 w2078 rfl rfl hdV_yX12_takeSign ⟨(by show 1 + 1 ≤ 10 * dd + 14; omega), (by show 8 + (2 + 11) + (21) ≤ 300 * dd + 460; omega)⟩ rfl hl.1 rfl (Nat.le_of_ble_eq_true rfl) dX12_pick_32 ⟨Nat.le_of_ble_eq_true rfl, Nat.le_of_ble_eq_true rfl⟩) hP hD hK hS hA (fun u405 H locs w406 hP hD hK hS => ?_)
      obtain ⟨V408, L409⟩ := u405
      obtain ⟨hMV408, ajV408, axL409, t407⟩ := w406
      have axL409 : L400 = L409 := Eq.symm axL409
      subst axL409
      have hP : va_P D vwCl (mw ad kk ks.1 V408 L400) H := hP
      have hD : va_D A (mw ad kk ks.1 V408 L400) := hD
      have hMV408 : rgd bM V408 := hMV408
      have ajV408 : agr [(0, 7), (0, 8)] [] V399 V408 := ajV408
      have agV408 : agr [(0, 7), (0, 8), (0, 48), (0, 50)] [35, 36, 37, 38, 45, 46, 47] V V408 := agV399.tr ajV408 (by decide) (by decide)
      have t407 : (V408 0 8).toInt = (V399 0 8).toInt := t407
      have r410 : 0 ≤ ((V408 0 8)).toInt ∧ ((V408 0 8)).toInt ≤ 70000 := hMV408 0 8
      refine lv_aload_n hx hb dX12_pick_35 rfl (lv_at hl 1 rfl) ?_
      refine lv_bipush (v := 13) hx hb dX12_pick_36 (by decide) ?_
      refine lv_iconst (v := 0) hx hb dX12_pick_38 (by decide) ?_
      refine lv_iconst (v := 0) hx hb dX12_pick_39 (by decide) ?_
      have r411 : Int32.toInt 13 = 13 := by decide
      have pq412 : (V408 0 48).toInt = ((V399 0 48)).toInt := congrArg Int32.toInt (ajV408 0 48 rfl)
      refine gA_int (gA_runV (As := [.int 13, .int 0, .int 0]) (rest := []) (ci := 12) (q0 := 0) hx hb hml hown hg hP hD hK hS hA hnw hgk (s_emit3 l D ks H.size ad kk V408 L400 13 0 0 hMV408 (show (V408 0 48).toInt ≤ 9999 from by first | omega | ((try (have i_t24 := Imp.go t24 (by omega))); omega))) w2136 w2138 w111 w172 w2139 rfl rfl hdV_yX12_emit ⟨(by show 0 + 1 ≤ 10 * dd + 14; omega), (by show 8 + (4 + 11) + (0) ≤ 300 * dd + 460; omega)⟩ rfl hl.1 rfl (Nat.le_of_ble_eq_true rfl) dX12_pick_40 ⟨Nat.le_of_ble_eq_true rfl, Nat.le_of_ble_eq_true rfl⟩) hP hD hK hS hA (fun z413 u414 H locs w415 hP hD hK hS => ?_)
      obtain ⟨V419, L420⟩ := u414
      obtain ⟨hMV419, ajV419, axL420, rgz413, t416, t417, t418⟩ := w415
      have axL420 : L400 = L420 := Eq.symm axL420
      subst axL420
      have hP : va_P D vwCl (mw ad kk ks.1 V419 L400) H := hP
      have hD : va_D A (mw ad kk ks.1 V419 L400) := hD
      have hMV419 : rgd bM V419 := hMV419
      have ajV419 : agr [(0, 48)] [45, 46, 47] V408 V419 := ajV419
      have agV419 : agr [(0, 7), (0, 8), (0, 48), (0, 50)] [35, 36, 37, 38, 45, 46, 47] V V419 := agV408.tr ajV419 (by decide) (by decide)
      have rgz413 : 0 ≤ z413.toInt ∧ z413.toInt ≤ 20000 := rgz413
      have t416 : (V419 0 48).toInt = (V408 0 48).toInt + 1 := t416
      have t417 : z413.toInt = (V408 0 49).toInt + (V408 0 48).toInt := t417
      have t418 : emitted V408 V419 (pA V408) 13 0 0 := t418
      have r421 : 0 ≤ ((V419 0 48)).toInt ∧ ((V419 0 48)).toInt ≤ 10000 := hMV419 0 48
      have pq422 : (V408 0 49).toInt = ((V 0 49)).toInt := congrArg Int32.toInt ((ajV408 0 49 rfl).trans ((ajV399 0 49 rfl).trans ((ajV386 0 49 rfl).trans ((ajV374 0 49 rfl).trans ((ajV29 0 49 rfl).trans (ajV8 0 49 rfl))))))
      refine lv_istore_n (lv' := [(2, .int z413), (1, .int z380), (0, .ref (ad 0))]) hx hb dX12_pick_43 rfl hl (by decide) rfl (fun ls hl => ?_)
      refine lv_aload_n hx hb dX12_pick_44 rfl (lv_at hl 2 rfl) ?_
      refine va_get (D := D) (ci := 12) (v := .ref (ad 46)) (C := RX12) (T := TX12) (N := 100) hx hb hg inX12 hown hK hP 0 rfl rfl 46 (by decide) (hg _ w1752) (fun _ h9 => h9) rfl dX12_pick_45 ?_
      refine lv_iload_n hx hb dX12_pick_48 rfl (lv_at hl 1 rfl) ?_
      refine lv_aload_n hx hb dX12_pick_49 rfl (lv_at hl 2 rfl) ?_
      refine va_get (D := D) (ci := 12) (v := .int (V419 0 49)) (C := RX12) (T := TX12) (N := 100) hx hb hg inX12 hown hK hP 0 rfl rfl 49 (by decide) (hg _ w1755) (fun _ h9 => h9) rfl dX12_pick_50 ?_
      refine g_top (v := (V 0 49)) ((ajV419 0 49 rfl).trans ((ajV408 0 49 rfl).trans ((ajV399 0 49 rfl).trans ((ajV386 0 49 rfl).trans ((ajV374 0 49 rfl).trans ((ajV29 0 49 rfl).trans (ajV8 0 49 rfl))))))) ?_
      refine lv_aload_n hx hb dX12_pick_53 rfl (lv_at hl 2 rfl) ?_
      refine va_get (D := D) (ci := 12) (v := .int (V419 0 48)) (C := RX12) (T := TX12) (N := 100) hx hb hg inX12 hown hK hP 0 rfl rfl 48 (by decide) (hg _ w1754) (fun _ h9 => h9) rfl dX12_pick_54 ?_
      refine lv_iadd hx hb dX12_pick_57 ?_
      refine lv_topi (fun z423 ez423 => ?_)
      have hz423 : z423.toInt = ((V 0 49)).toInt + ((V419 0 48)).toInt := i_add ez423 rfl rfl (by omega)
      refine va_iast (D := D) (i := z380) (x := z423) hx hb hK hP hD hS 39 38 rfl rfl (i_in (a := z380.toInt) rfl (by first | omega | ((try (have i_t24 := Imp.go t24 (by omega))); omega))) dX12_pick_58 (fun H locs hP hD hS => ?_)
      obtain ⟨V424, hV424⟩ : ∃ z, z = up2 V419 46 (Int32.toNatClampNeg z380) z423 := ⟨_, rfl⟩
      have hP : va_P D vwCl (mw ad kk ks.1 V424 L400) H := by rw [hV424]; exact hP
      have hD : va_D A (mw ad kk ks.1 V424 L400) := by rw [hV424]; exact hD
      have hMV424 : rgd bM V424 := hMV419.put hV424 (i_full _)
      have agV424 : agr [(0, 7), (0, 8), (0, 48), (0, 50)] [35, 36, 37, 38, 45, 46, 47] V V424 := agV419.up hV424 rfl
      refine lv_aload_n hx hb dX12_pick_59 rfl (lv_at hl 2 rfl) ?_
      have pq425 : (V424 0 8).toInt = ((V408 0 8)).toInt := congrArg Int32.toInt ((up2_o hV424 (by decide)).trans (ajV419 0 8 rfl))
      have pq426 : (V424 0 50).toInt = ((V399 0 50)).toInt := congrArg Int32.toInt ((up2_o hV424 (by decide)).trans ((ajV419 0 50 rfl).trans (ajV408 0 50 rfl)))
      refine gA_void (gA_runV (As := []) (rest := []) (ci := 12) (q0 := 0) hx hb hml hown hg hP hD hK hS hA hnw hgk (s_expressionB l D ks H.size ad kk V424 L400  hMV424 (show 1 ≤ (V424 0 8).toInt from by first | omega | ((try (have i_t24 := Imp.go t24 (by omega))); omega)) (show (V424 0 50).toInt ≤ 8 from by first | omega | ((try (have i_t24 := Imp.go t24 (by omega))); omega))) w2116 w2118 w106 w172 w2119 rfl rfl hdV_yX12_expression ⟨(by show 4 + 1 ≤ 10 * dd + 14; omega), (by show 8 + (3 + 11) + (86) ≤ 300 * dd + 460; omega)⟩ rfl hl.1 rfl (Nat.le_of_ble_eq_true rfl) dX12_pick_60 ⟨Nat.le_of_ble_eq_true rfl, Nat.le_of_ble_eq_true rfl⟩) hP hD hK hS hA (fun u428 H locs w429 hP hD hK hS => ?_)
      obtain ⟨V433, L434⟩ := u428
      obtain ⟨hMV433, ajV433, axL434, t430, t431, t432⟩ := w429
      have alL434 : agL [35, 36, 37, 38, 45, 46, 47] L L434 := agL.tr alL400 axL434 (by decide)
      have hP : va_P D vwCl (mw ad kk ks.1 V433 L434) H := hP
      have hD : va_D A (mw ad kk ks.1 V433 L434) := hD
      have hMV433 : rgd bM V433 := hMV433
      have ajV433 : agr [(0, 7), (0, 8), (0, 48), (0, 50)] [35, 36, 37, 38, 45, 46, 47] V424 V433 := ajV433
      have agV433 : agr [(0, 7), (0, 8), (0, 48), (0, 50)] [35, 36, 37, 38, 45, 46, 47] V V433 := agV424.tr ajV433 (by decide) (by decide)
      have t430 : (V433 0 48).toInt = (V424 0 48).toInt := t430
      have t431 : (V433 0 50).toInt = (V424 0 50).toInt := t431
      have t432 : (V433 0 8).toInt = (V424 0 8).toInt := t432
      have pq435 : (V424 0 48).toInt = ((V419 0 48)).toInt := congrArg Int32.toInt (up2_o hV424 (by decide))
      have r436 : 0 ≤ ((V433 0 48)).toInt ∧ ((V433 0 48)).toInt ≤ 10000 := hMV433 0 48
      have r437 : 0 ≤ ((V433 0 50)).toInt ∧ ((V433 0 50)).toInt ≤ 9 := hMV433 0 50
      have r438 : 0 ≤ ((V433 0 8)).toInt ∧ ((V433 0 8)).toInt ≤ 70000 := hMV433 0 8
      refine lv_aload_n hx hb dX12_pick_63 rfl (lv_at hl 2 rfl) ?_
      refine lv_bipush (v := 41) hx hb dX12_pick_64 (by decide) ?_
      have r439 : Int32.toInt 41 = 41 := by decide
      refine gA_void (gA_runV (As := [.int 41]) (rest := []) (ci := 12) (q0 := 0) hx hb hml hown hg hP hD hK hS hA hnw hgk (s_takeSignB l D ks H.size ad kk V433 L434 41 hMV433 (show 1 ≤ (V433 0 8).toInt from by first | omega | ((try (have i_t24 := Imp.go t24 (by omega))); omega))) w2075 w2077 w96 w172 w2078 rfl rfl hdV_yX12_takeSign ⟨(by show 1 + 1 ≤ 10 * dd + 14; omega), (by show 8 + (2 + 11) + (21) ≤ 300 * dd + 460; omega)⟩ rfl hl.1 rfl (Nat.le_of_ble_eq_true rfl) dX12_pick_66 ⟨Nat.le_of_ble_eq_true rfl, Nat.le_of_ble_eq_true rfl⟩) hP hD hK hS hA (fun u441 H locs w442 hP hD hK hS => ?_)
      obtain ⟨V444, L445⟩ := u441
      obtain ⟨hMV444, ajV444, axL445, t443⟩ := w442
      have axL445 : L434 = L445 := Eq.symm axL445
      subst axL445
      have hP : va_P D vwCl (mw ad kk ks.1 V444 L434) H := hP
      have hD : va_D A (mw ad kk ks.1 V444 L434) := hD
      have hMV444 : rgd bM V444 := hMV444
      have ajV444 : agr [(0, 7), (0, 8)] [] V433 V444 := ajV444
      have agV444 : agr [(0, 7), (0, 8), (0, 48), (0, 50)] [35, 36, 37, 38, 45, 46, 47] V V444 := agV433.tr ajV444 (by decide) (by decide)
      have t443 : (V444 0 8).toInt = (V433 0 8).toInt := t443
      have r446 : 0 ≤ ((V444 0 8)).toInt ∧ ((V444 0 8)).toInt ≤ 70000 := hMV444 0 8
      refine lv_aload_n hx hb dX12_pick_69 rfl (lv_at hl 2 rfl) ?_
      refine va_get (D := D) (ci := 12) (v := .ref (ad 46)) (C := RX12) (T := TX12) (N := 100) hx hb hg inX12 hown hK hP 0 rfl rfl 46 (by decide) (hg _ w1752) (fun _ h9 => h9) rfl dX12_pick_70 ?_
      refine lv_iload_n hx hb dX12_pick_73 rfl (lv_at hl 0 rfl) ?_
      refine lv_aload_n hx hb dX12_pick_74 rfl (lv_at hl 2 rfl) ?_
      refine va_get (D := D) (ci := 12) (v := .int (V444 0 49)) (C := RX12) (T := TX12) (N := 100) hx hb hg inX12 hown hK hP 0 rfl rfl 49 (by decide) (hg _ w1755) (fun _ h9 => h9) rfl dX12_pick_75 ?_
      refine g_top (v := (V 0 49)) ((ajV444 0 49 rfl).trans ((ajV433 0 49 rfl).trans ((up2_o hV424 (by decide)).trans ((ajV419 0 49 rfl).trans ((ajV408 0 49 rfl).trans ((ajV399 0 49 rfl).trans ((ajV386 0 49 rfl).trans ((ajV374 0 49 rfl).trans ((ajV29 0 49 rfl).trans (ajV8 0 49 rfl)))))))))) ?_
      refine lv_aload_n hx hb dX12_pick_78 rfl (lv_at hl 2 rfl) ?_
      refine va_get (D := D) (ci := 12) (v := .int (V444 0 48)) (C := RX12) (T := TX12) (N := 100) hx hb hg inX12 hown hK hP 0 rfl rfl 48 (by decide) (hg _ w1754) (fun _ h9 => h9) rfl dX12_pick_79 ?_
      refine g_top (v := (V433 0 48)) (ajV444 0 48 rfl) ?_
      refine lv_iadd hx hb dX12_pick_82 ?_
      refine lv_topi (fun z447 ez447 => ?_)
      have hz447 : z447.toInt = ((V 0 49)).toInt + ((V433 0 48)).toInt := i_add ez447 rfl rfl (by omega)
      refine va_iast (D := D) (i := z413) (x := z447) hx hb hK hP hD hS 39 38 rfl rfl (i_in (a := z413.toInt) rfl (by first | omega | ((try (have i_t24 := Imp.go t24 (by omega))); omega))) dX12_pick_83 (fun H locs hP hD hS => ?_)
      obtain ⟨V448, hV448⟩ : ∃ z, z = up2 V444 46 (Int32.toNatClampNeg z413) z447 := ⟨_, rfl⟩
      have hP : va_P D vwCl (mw ad kk ks.1 V448 L434) H := by rw [hV448]; exact hP
      have hD : va_D A (mw ad kk ks.1 V448 L434) := by rw [hV448]; exact hD
      have hMV448 : rgd bM V448 := hMV444.put hV448 (i_full _)
      have agV448 : agr [(0, 7), (0, 8), (0, 48), (0, 50)] [35, 36, 37, 38, 45, 46, 47] V V448 := agV444.up hV448 rfl
      have pq449 : (V448 0 7).toInt = ((V444 0 7)).toInt := congrArg Int32.toInt (up2_o hV448 (by decide))
      have pq450 : (V448 0 48).toInt = ((V433 0 48)).toInt := congrArg Int32.toInt ((up2_o hV448 (by decide)).trans (ajV444 0 48 rfl))
      have pq451 : (V448 0 8).toInt = ((V444 0 8)).toInt := congrArg Int32.toInt (up2_o hV448 (by decide))
      have pq452 : (V448 0 50).toInt = ((V433 0 50)).toInt := congrArg Int32.toInt ((up2_o hV448 (by decide)).trans (ajV444 0 50 rfl))
      exact W.vret hx hb hr (fun t ht hW => ⟨⟨(V448, L434), rfl, ⟨hMV448, agV448, alL434, (Imp.mk (fun hp => have hp : (V448 0 8).toInt = 0 := hp; (show (V448 0 48).toInt - (V 0 48).toInt ≤ 2 * ((V448 0 7).toInt - (V 0 7).toInt) from by first | omega | ((try (have i_t24 := Imp.go t24 (by omega))); omega)))), (show (V448 0 48).toInt ≤ 8053 - 6 * (V 0 50).toInt from by first | omega | ((try (have i_t24 := Imp.go t24 (by omega))); omega)), (show (V448 0 50).toInt = (V 0 50).toInt from by first | omega | ((try (have i_t24 := Imp.go t24 (by omega))); omega)), (show (V 0 48).toInt ≤ (V448 0 48).toInt from by first | omega | ((try (have i_t24 := Imp.go t24 (by omega))); omega)), (Or.inr ⟨(show 1 ≤ (V448 0 8).toInt from by omega), (fun k => by rw [show (V448 0 8).toInt = (V29 0 8).toInt from by omega]; exact hb368 k)⟩)⟩, by rw [ht]; exact hP, va_K.moved hW.alike hK, hD⟩, hS.F ht⟩) hS.2.2 dX12_pick_84
  · skip
    have kd453 : gT.1 (gs.1 0) ≠ 40 := fun h9 => h11 (h9.trans (by decide))
    have hb454 : ∀ k, Rc gT (Crun gs (Itake 40 :: Iexpr gd :: Itake 44 :: Iexpr gd :: Itake 44 :: Iexpr gd :: Itake 41 :: k)) (Cbad (V8 0 8).toInt) := fun k => Rc.go1 (hr13 k) ((tk_n kd453).trans (fl_eq rfl rl12))
    have r455 : 0 ≤ ((V8 0 8)).toInt ∧ ((V8 0 8)).toInt ≤ 70000 := hMV8 0 8
    refine lv_aload_n hx hb dX12_pick_6 rfl (lv_at hl 0 rfl) ?_
    have pq456 : (V8 0 50).toInt = ((V 0 50)).toInt := congrArg Int32.toInt (ajV8 0 50 rfl)
    refine gA_void (gA_runV (As := []) (rest := []) (ci := 12) (q0 := 0) hx hb hml hown hg hP hD hK hS hA hnw hgk (s_expressionB l D ks H.size ad kk V8 L  hMV8 (show 1 ≤ (V8 0 8).toInt from by omega) (show (V8 0 50).toInt ≤ 8 from by omega)) w2116 w2118 w106 w172 w2119 rfl rfl hdV_yX12_expression ⟨(by show 4 + 1 ≤ 10 * dd + 14; omega), (by show 8 + (3 + 11) + (86) ≤ 300 * dd + 460; omega)⟩ rfl hl.1 rfl (Nat.le_of_ble_eq_true rfl) dX12_pick_7 ⟨Nat.le_of_ble_eq_true rfl, Nat.le_of_ble_eq_true rfl⟩) hP hD hK hS hA (fun u458 H locs w459 hP hD hK hS => ?_)
    obtain ⟨V463, L464⟩ := u458
    obtain ⟨hMV463, ajV463, axL464, t460, t461, t462⟩ := w459
    have alL464 : agL [35, 36, 37, 38, 45, 46, 47] L L464 := agL.tr alL axL464 (by decide)
    have hP : va_P D vwCl (mw ad kk ks.1 V463 L464) H := hP
    have hD : va_D A (mw ad kk ks.1 V463 L464) := hD
    have hMV463 : rgd bM V463 := hMV463
    have ajV463 : agr [(0, 7), (0, 8), (0, 48), (0, 50)] [35, 36, 37, 38, 45, 46, 47] V8 V463 := ajV463
    have agV463 : agr [(0, 7), (0, 8), (0, 48), (0, 50)] [35, 36, 37, 38, 45, 46, 47] V V463 := agV8.tr ajV463 (by decide) (by decide)
    have t460 : (V463 0 48).toInt = (V8 0 48).toInt := t460
    have t461 : (V463 0 50).toInt = (V8 0 50).toInt := t461
    have t462 : (V463 0 8).toInt = (V8 0 8).toInt := t462
    have pq465 : (V8 0 48).toInt = ((V 0 48)).toInt := congrArg Int32.toInt (ajV8 0 48 rfl)
    have r466 : 0 ≤ ((V463 0 48)).toInt ∧ ((V463 0 48)).toInt ≤ 10000 := hMV463 0 48
    have r467 : 0 ≤ ((V463 0 50)).toInt ∧ ((V463 0 50)).toInt ≤ 9 := hMV463 0 50
    have r468 : 0 ≤ ((V463 0 8)).toInt ∧ ((V463 0 8)).toInt ≤ 70000 := hMV463 0 8
    refine lv_aload_n hx hb dX12_pick_10 rfl (lv_at hl 0 rfl) ?_
    refine lv_bipush (v := 44) hx hb dX12_pick_11 (by decide) ?_
    have r469 : Int32.toInt 44 = 44 := by decide
    refine gA_void (gA_runV (As := [.int 44]) (rest := []) (ci := 12) (q0 := 0) hx hb hml hown hg hP hD hK hS hA hnw hgk (s_takeSignB l D ks H.size ad kk V463 L464 44 hMV463 (show 1 ≤ (V463 0 8).toInt from by omega)) w2075 w2077 w96 w172 w2078 rfl rfl hdV_yX12_takeSign ⟨(by show 1 + 1 ≤ 10 * dd + 14; omega), (by show 8 + (2 + 11) + (21) ≤ 300 * dd + 460; omega)⟩ rfl hl.1 rfl (Nat.le_of_ble_eq_true rfl) dX12_pick_13 ⟨Nat.le_of_ble_eq_true rfl, Nat.le_of_ble_eq_true rfl⟩) hP hD hK hS hA (fun u471 H locs w472 hP hD hK hS => ?_)
    obtain ⟨V474, L475⟩ := u471
    obtain ⟨hMV474, ajV474, axL475, t473⟩ := w472
    have axL475 : L464 = L475 := Eq.symm axL475
    subst axL475
    have hP : va_P D vwCl (mw ad kk ks.1 V474 L464) H := hP
    have hD : va_D A (mw ad kk ks.1 V474 L464) := hD
    have hMV474 : rgd bM V474 := hMV474
    have ajV474 : agr [(0, 7), (0, 8)] [] V463 V474 := ajV474
    have agV474 : agr [(0, 7), (0, 8), (0, 48), (0, 50)] [35, 36, 37, 38, 45, 46, 47] V V474 := agV463.tr ajV474 (by decide) (by decide)
    have t473 : (V474 0 8).toInt = (V463 0 8).toInt := t473
    have r476 : 0 ≤ ((V474 0 8)).toInt ∧ ((V474 0 8)).toInt ≤ 70000 := hMV474 0 8
    refine lv_aload_n hx hb dX12_pick_16 rfl (lv_at hl 0 rfl) ?_
    refine lv_bipush (v := 12) hx hb dX12_pick_17 (by decide) ?_
    refine lv_iconst (v := 0) hx hb dX12_pick_19 (by decide) ?_
    refine lv_iconst (v := 0) hx hb dX12_pick_20 (by decide) ?_
    have r477 : Int32.toInt 12 = 12 := by decide
    have r478 : Int32.toInt 0 = 0 := by decide
    have pq479 : (V474 0 48).toInt = ((V463 0 48)).toInt := congrArg Int32.toInt (ajV474 0 48 rfl)
    refine gA_int (gA_runV (As := [.int 12, .int 0, .int 0]) (rest := []) (ci := 12) (q0 := 0) hx hb hml hown hg hP hD hK hS hA hnw hgk (s_emit3 l D ks H.size ad kk V474 L464 12 0 0 hMV474 (show (V474 0 48).toInt ≤ 9999 from by omega)) w2136 w2138 w111 w172 w2139 rfl rfl hdV_yX12_emit ⟨(by show 0 + 1 ≤ 10 * dd + 14; omega), (by show 8 + (4 + 11) + (0) ≤ 300 * dd + 460; omega)⟩ rfl hl.1 rfl (Nat.le_of_ble_eq_true rfl) dX12_pick_21 ⟨Nat.le_of_ble_eq_true rfl, Nat.le_of_ble_eq_true rfl⟩) hP hD hK hS hA (fun z480 u481 H locs w482 hP hD hK hS => ?_)
    obtain ⟨V486, L487⟩ := u481
    obtain ⟨hMV486, ajV486, axL487, rgz480, t483, t484, t485⟩ := w482
    have axL487 : L464 = L487 := Eq.symm axL487
    subst axL487
    have hP : va_P D vwCl (mw ad kk ks.1 V486 L464) H := hP
    have hD : va_D A (mw ad kk ks.1 V486 L464) := hD
    have hMV486 : rgd bM V486 := hMV486
    have ajV486 : agr [(0, 48)] [45, 46, 47] V474 V486 := ajV486
    have agV486 : agr [(0, 7), (0, 8), (0, 48), (0, 50)] [35, 36, 37, 38, 45, 46, 47] V V486 := agV474.tr ajV486 (by decide) (by decide)
    have rgz480 : 0 ≤ z480.toInt ∧ z480.toInt ≤ 20000 := rgz480
    have t483 : (V486 0 48).toInt = (V474 0 48).toInt + 1 := t483
    have t484 : z480.toInt = (V474 0 49).toInt + (V474 0 48).toInt := t484
    have t485 : emitted V474 V486 (pA V474) 12 0 0 := t485
    have r488 : 0 ≤ ((V486 0 48)).toInt ∧ ((V486 0 48)).toInt ≤ 10000 := hMV486 0 48
    have pq489 : (V474 0 49).toInt = ((V 0 49)).toInt := congrArg Int32.toInt ((ajV474 0 49 rfl).trans ((ajV463 0 49 rfl).trans (ajV8 0 49 rfl)))
    have r490 : 0 ≤ ((V 0 49)).toInt ∧ ((V 0 49)).toInt ≤ 10000 := hMV 0 49
    refine lv_istore_n (lv' := [(1, .int z480), (0, .ref (ad 0))]) hx hb dX12_pick_24 rfl hl (by decide) rfl (fun ls hl => ?_)
    refine lv_aload_n hx hb dX12_pick_25 rfl (lv_at hl 1 rfl) ?_
    have pq491 : (V486 0 8).toInt = ((V474 0 8)).toInt := congrArg Int32.toInt (ajV486 0 8 rfl)
    have pq492 : (V486 0 50).toInt = ((V463 0 50)).toInt := congrArg Int32.toInt ((ajV486 0 50 rfl).trans (ajV474 0 50 rfl))
    refine gA_void (gA_runV (As := []) (rest := []) (ci := 12) (q0 := 0) hx hb hml hown hg hP hD hK hS hA hnw hgk (s_expressionB l D ks H.size ad kk V486 L464  hMV486 (show 1 ≤ (V486 0 8).toInt from by omega) (show (V486 0 50).toInt ≤ 8 from by omega)) w2116 w2118 w106 w172 w2119 rfl rfl hdV_yX12_expression ⟨(by show 4 + 1 ≤ 10 * dd + 14; omega), (by show 8 + (3 + 11) + (86) ≤ 300 * dd + 460; omega)⟩ rfl hl.1 rfl (Nat.le_of_ble_eq_true rfl) dX12_pick_26 ⟨Nat.le_of_ble_eq_true rfl, Nat.le_of_ble_eq_true rfl⟩) hP hD hK hS hA (fun u494 H locs w495 hP hD hK hS => ?_)
    obtain ⟨V499, L500⟩ := u494
    obtain ⟨hMV499, ajV499, axL500, t496, t497, t498⟩ := w495
    have alL500 : agL [35, 36, 37, 38, 45, 46, 47] L L500 := agL.tr alL464 axL500 (by decide)
    have hP : va_P D vwCl (mw ad kk ks.1 V499 L500) H := hP
    have hD : va_D A (mw ad kk ks.1 V499 L500) := hD
    have hMV499 : rgd bM V499 := hMV499
    have ajV499 : agr [(0, 7), (0, 8), (0, 48), (0, 50)] [35, 36, 37, 38, 45, 46, 47] V486 V499 := ajV499
    have agV499 : agr [(0, 7), (0, 8), (0, 48), (0, 50)] [35, 36, 37, 38, 45, 46, 47] V V499 := agV486.tr ajV499 (by decide) (by decide)
    have t496 : (V499 0 48).toInt = (V486 0 48).toInt := t496
    have t497 : (V499 0 50).toInt = (V486 0 50).toInt := t497
    have t498 : (V499 0 8).toInt = (V486 0 8).toInt := t498
    have r501 : 0 ≤ ((V499 0 48)).toInt ∧ ((V499 0 48)).toInt ≤ 10000 := hMV499 0 48
    have r502 : 0 ≤ ((V499 0 50)).toInt ∧ ((V499 0 50)).toInt ≤ 9 := hMV499 0 50
    have r503 : 0 ≤ ((V499 0 8)).toInt ∧ ((V499 0 8)).toInt ≤ 70000 := hMV499 0 8
    refine lv_aload_n hx hb dX12_pick_29 rfl (lv_at hl 1 rfl) ?_
    refine lv_bipush (v := 44) hx hb dX12_pick_30 (by decide) ?_
    refine gA_void (gA_runV (As := [.int 44]) (rest := []) (ci := 12) (q0 := 0) hx hb hml hown hg hP hD hK hS hA hnw hgk (s_takeSignB l D ks H.size ad kk V499 L500 44 hMV499 (show 1 ≤ (V499 0 8).toInt from by omega)) w2075 w2077 w96 w172 w2078 rfl rfl hdV_yX12_takeSign ⟨(by show 1 + 1 ≤ 10 * dd + 14; omega), (by show 8 + (2 + 11) + (21) ≤ 300 * dd + 460; omega)⟩ rfl hl.1 rfl (Nat.le_of_ble_eq_true rfl) dX12_pick_32 ⟨Nat.le_of_ble_eq_true rfl, Nat.le_of_ble_eq_true rfl⟩) hP hD hK hS hA (fun u505 H locs w506 hP hD hK hS => ?_)
    obtain ⟨V508, L509⟩ := u505
    obtain ⟨hMV508, ajV508, axL509, t507⟩ := w506
    have axL509 : L500 = L509 := Eq.symm axL509
    subst axL509
    have hP : va_P D vwCl (mw ad kk ks.1 V508 L500) H := hP
    have hD : va_D A (mw ad kk ks.1 V508 L500) := hD
    have hMV508 : rgd bM V508 := hMV508
    have ajV508 : agr [(0, 7), (0, 8)] [] V499 V508 := ajV508
    have agV508 : agr [(0, 7), (0, 8), (0, 48), (0, 50)] [35, 36, 37, 38, 45, 46, 47] V V508 := agV499.tr ajV508 (by decide) (by decide)
    have t507 : (V508 0 8).toInt = (V499 0 8).toInt := t507
    have r510 : 0 ≤ ((V508 0 8)).toInt ∧ ((V508 0 8)).toInt ≤ 70000 := hMV508 0 8
    refine lv_aload_n hx hb dX12_pick_35 rfl (lv_at hl 1 rfl) ?_
    refine lv_bipush (v := 13) hx hb dX12_pick_36 (by decide) ?_
    refine lv_iconst (v := 0) hx hb dX12_pick_38 (by decide) ?_
    refine lv_iconst (v := 0) hx hb dX12_pick_39 (by decide) ?_
    have r511 : Int32.toInt 13 = 13 := by decide
    have pq512 : (V508 0 48).toInt = ((V499 0 48)).toInt := congrArg Int32.toInt (ajV508 0 48 rfl)
    refine gA_int (gA_runV (As := [.int 13, .int 0, .int 0]) (rest := []) (ci := 12) (q0 := 0) hx hb hml hown hg hP hD hK hS hA hnw hgk (s_emit3 l D ks H.size ad kk V508 L500 13 0 0 hMV508 (show (V508 0 48).toInt ≤ 9999 from by omega)) w2136 w2138 w111 w172 w2139 rfl rfl hdV_yX12_emit ⟨(by show 0 + 1 ≤ 10 * dd + 14; omega), (by show 8 + (4 + 11) + (0) ≤ 300 * dd + 460; omega)⟩ rfl hl.1 rfl (Nat.le_of_ble_eq_true rfl) dX12_pick_40 ⟨Nat.le_of_ble_eq_true rfl, Nat.le_of_ble_eq_true rfl⟩) hP hD hK hS hA (fun z513 u514 H locs w515 hP hD hK hS => ?_)
    obtain ⟨V519, L520⟩ := u514
    obtain ⟨hMV519, ajV519, axL520, rgz513, t516, t517, t518⟩ := w515
    have axL520 : L500 = L520 := Eq.symm axL520
    subst axL520
    have hP : va_P D vwCl (mw ad kk ks.1 V519 L500) H := hP
    have hD : va_D A (mw ad kk ks.1 V519 L500) := hD
    have hMV519 : rgd bM V519 := hMV519
    have ajV519 : agr [(0, 48)] [45, 46, 47] V508 V519 := ajV519
    have agV519 : agr [(0, 7), (0, 8), (0, 48), (0, 50)] [35, 36, 37, 38, 45, 46, 47] V V519 := agV508.tr ajV519 (by decide) (by decide)
    have rgz513 : 0 ≤ z513.toInt ∧ z513.toInt ≤ 20000 := rgz513
    have t516 : (V519 0 48).toInt = (V508 0 48).toInt + 1 := t516
    have t517 : z513.toInt = (V508 0 49).toInt + (V508 0 48).toInt := t517
    have t518 : emitted V508 V519 (pA V508) 13 0 0 := t518
    have r521 : 0 ≤ ((V519 0 48)).toInt ∧ ((V519 0 48)).toInt ≤ 10000 := hMV519 0 48
    have pq522 : (V508 0 49).toInt = ((V 0 49)).toInt := congrArg Int32.toInt ((ajV508 0 49 rfl).trans ((ajV499 0 49 rfl).trans ((ajV486 0 49 rfl).trans ((ajV474 0 49 rfl).trans ((ajV463 0 49 rfl).trans (ajV8 0 49 rfl))))))
    refine lv_istore_n (lv' := [(2, .int z513), (1, .int z480), (0, .ref (ad 0))]) hx hb dX12_pick_43 rfl hl (by decide) rfl (fun ls hl => ?_)
    refine lv_aload_n hx hb dX12_pick_44 rfl (lv_at hl 2 rfl) ?_
    refine va_get (D := D) (ci := 12) (v := .ref (ad 46)) (C := RX12) (T := TX12) (N := 100) hx hb hg inX12 hown hK hP 0 rfl rfl 46 (by decide) (hg _ w1752) (fun _ h9 => h9) rfl dX12_pick_45 ?_
    refine lv_iload_n hx hb dX12_pick_48 rfl (lv_at hl 1 rfl) ?_
    refine lv_aload_n hx hb dX12_pick_49 rfl (lv_at hl 2 rfl) ?_
    refine va_get (D := D) (ci := 12) (v := .int (V519 0 49)) (C := RX12) (T := TX12) (N := 100) hx hb hg inX12 hown hK hP 0 rfl rfl 49 (by decide) (hg _ w1755) (fun _ h9 => h9) rfl dX12_pick_50 ?_
    refine g_top (v := (V 0 49)) ((ajV519 0 49 rfl).trans ((ajV508 0 49 rfl).trans ((ajV499 0 49 rfl).trans ((ajV486 0 49 rfl).trans ((ajV474 0 49 rfl).trans ((ajV463 0 49 rfl).trans (ajV8 0 49 rfl))))))) ?_
    refine lv_aload_n hx hb dX12_pick_53 rfl (lv_at hl 2 rfl) ?_
    refine va_get (D := D) (ci := 12) (v := .int (V519 0 48)) (C := RX12) (T := TX12) (N := 100) hx hb hg inX12 hown hK hP 0 rfl rfl 48 (by decide) (hg _ w1754) (fun _ h9 => h9) rfl dX12_pick_54 ?_
    refine lv_iadd hx hb dX12_pick_57 ?_
    refine lv_topi (fun z523 ez523 => ?_)
    have hz523 : z523.toInt = ((V 0 49)).toInt + ((V519 0 48)).toInt := i_add ez523 rfl rfl (by omega)
    refine va_iast (D := D) (i := z480) (x := z523) hx hb hK hP hD hS 39 38 rfl rfl (i_in (a := z480.toInt) rfl (by omega)) dX12_pick_58 (fun H locs hP hD hS => ?_)
    obtain ⟨V524, hV524⟩ : ∃ z, z = up2 V519 46 (Int32.toNatClampNeg z480) z523 := ⟨_, rfl⟩
    have hP : va_P D vwCl (mw ad kk ks.1 V524 L500) H := by rw [hV524]; exact hP
    have hD : va_D A (mw ad kk ks.1 V524 L500) := by rw [hV524]; exact hD
    have hMV524 : rgd bM V524 := hMV519.put hV524 (i_full _)
    have agV524 : agr [(0, 7), (0, 8), (0, 48), (0, 50)] [35, 36, 37, 38, 45, 46, 47] V V524 := agV519.up hV524 rfl
    refine lv_aload_n hx hb dX12_pick_59 rfl (lv_at hl 2 rfl) ?_
    have pq525 : (V524 0 8).toInt = ((V508 0 8)).toInt := congrArg Int32.toInt ((up2_o hV524 (by decide)).trans (ajV519 0 8 rfl))
    have pq526 : (V524 0 50).toInt = ((V499 0 50)).toInt := congrArg Int32.toInt ((up2_o hV524 (by decide)).trans ((ajV519 0 50 rfl).trans (ajV508 0 50 rfl)))
    refine gA_void (gA_runV (As := []) (rest := []) (ci := 12) (q0 := 0) hx hb hml hown hg hP hD hK hS hA hnw hgk (s_expressionB l D ks H.size ad kk V524 L500  hMV524 (show 1 ≤ (V524 0 8).toInt from by omega) (show (V524 0 50).toInt ≤ 8 from by omega)) w2116 w2118 w106 w172 w2119 rfl rfl hdV_yX12_expression ⟨(by show 4 + 1 ≤ 10 * dd + 14; omega), (by show 8 + (3 + 11) + (86) ≤ 300 * dd + 460; omega)⟩ rfl hl.1 rfl (Nat.le_of_ble_eq_true rfl) dX12_pick_60 ⟨Nat.le_of_ble_eq_true rfl, Nat.le_of_ble_eq_true rfl⟩) hP hD hK hS hA (fun u528 H locs w529 hP hD hK hS => ?_)
    obtain ⟨V533, L534⟩ := u528
    obtain ⟨hMV533, ajV533, axL534, t530, t531, t532⟩ := w529
    have alL534 : agL [35, 36, 37, 38, 45, 46, 47] L L534 := agL.tr alL500 axL534 (by decide)
    have hP : va_P D vwCl (mw ad kk ks.1 V533 L534) H := hP
    have hD : va_D A (mw ad kk ks.1 V533 L534) := hD
    have hMV533 : rgd bM V533 := hMV533
    have ajV533 : agr [(0, 7), (0, 8), (0, 48), (0, 50)] [35, 36, 37, 38, 45, 46, 47] V524 V533 := ajV533
    have agV533 : agr [(0, 7), (0, 8), (0, 48), (0, 50)] [35, 36, 37, 38, 45, 46, 47] V V533 := agV524.tr ajV533 (by decide) (by decide)
    have t530 : (V533 0 48).toInt = (V524 0 48).toInt := t530
    have t531 : (V533 0 50).toInt = (V524 0 50).toInt := t531
    have t532 : (V533 0 8).toInt = (V524 0 8).toInt := t532
    have pq535 : (V524 0 48).toInt = ((V519 0 48)).toInt := congrArg Int32.toInt (up2_o hV524 (by decide))
    have r536 : 0 ≤ ((V533 0 48)).toInt ∧ ((V533 0 48)).toInt ≤ 10000 := hMV533 0 48
    have r537 : 0 ≤ ((V533 0 50)).toInt ∧ ((V533 0 50)).toInt ≤ 9 := hMV533 0 50
    have r538 : 0 ≤ ((V533 0 8)).toInt ∧ ((V533 0 8)).toInt ≤ 70000 := hMV533 0 8
    refine lv_aload_n hx hb dX12_pick_63 rfl (lv_at hl 2 rfl) ?_
    refine lv_bipush (v := 41) hx hb dX12_pick_64 (by decide) ?_
    have r539 : Int32.toInt 41 = 41 := by decide
    refine gA_void (gA_runV (As := [.int 41]) (rest := []) (ci := 12) (q0 := 0) hx hb hml hown hg hP hD hK hS hA hnw hgk (s_takeSignB l D ks H.size ad kk V533 L534 41 hMV533 (show 1 ≤ (V533 0 8).toInt from by omega)) w2075 w2077 w96 w172 w2078 rfl rfl hdV_yX12_takeSign ⟨(by show 1 + 1 ≤ 10 * dd + 14; omega), (by show 8 + (2 + 11) + (21) ≤ 300 * dd + 460; omega)⟩ rfl hl.1 rfl (Nat.le_of_ble_eq_true rfl) dX12_pick_66 ⟨Nat.le_of_ble_eq_true rfl, Nat.le_of_ble_eq_true rfl⟩) hP hD hK hS hA (fun u541 H locs w542 hP hD hK hS => ?_)
    obtain ⟨V544, L545⟩ := u541
    obtain ⟨hMV544, ajV544, axL545, t543⟩ := w542
    have axL545 : L534 = L545 := Eq.symm axL545
    subst axL545
    have hP : va_P D vwCl (mw ad kk ks.1 V544 L534) H := hP
    have hD : va_D A (mw ad kk ks.1 V544 L534) := hD
    have hMV544 : rgd bM V544 := hMV544
    have ajV544 : agr [(0, 7), (0, 8)] [] V533 V544 := ajV544
    have agV544 : agr [(0, 7), (0, 8), (0, 48), (0, 50)] [35, 36, 37, 38, 45, 46, 47] V V544 := agV533.tr ajV544 (by decide) (by decide)
    have t543 : (V544 0 8).toInt = (V533 0 8).toInt := t543
    have r546 : 0 ≤ ((V544 0 8)).toInt ∧ ((V544 0 8)).toInt ≤ 70000 := hMV544 0 8
    refine lv_aload_n hx hb dX12_pick_69 rfl (lv_at hl 2 rfl) ?_
    refine va_get (D := D) (ci := 12) (v := .ref (ad 46)) (C := RX12) (T := TX12) (N := 100) hx hb hg inX12 hown hK hP 0 rfl rfl 46 (by decide) (hg _ w1752) (fun _ h9 => h9) rfl dX12_pick_70 ?_
    refine lv_iload_n hx hb dX12_pick_73 rfl (lv_at hl 0 rfl) ?_
    refine lv_aload_n hx hb dX12_pick_74 rfl (lv_at hl 2 rfl) ?_
    refine va_get (D := D) (ci := 12) (v := .int (V544 0 49)) (C := RX12) (T := TX12) (N := 100) hx hb hg inX12 hown hK hP 0 rfl rfl 49 (by decide) (hg _ w1755) (fun _ h9 => h9) rfl dX12_pick_75 ?_
    refine g_top (v := (V 0 49)) ((ajV544 0 49 rfl).trans ((ajV533 0 49 rfl).trans ((up2_o hV524 (by decide)).trans ((ajV519 0 49 rfl).trans ((ajV508 0 49 rfl).trans ((ajV499 0 49 rfl).trans ((ajV486 0 49 rfl).trans ((ajV474 0 49 rfl).trans ((ajV463 0 49 rfl).trans (ajV8 0 49 rfl)))))))))) ?_
    refine lv_aload_n hx hb dX12_pick_78 rfl (lv_at hl 2 rfl) ?_
    refine va_get (D := D) (ci := 12) (v := .int (V544 0 48)) (C := RX12) (T := TX12) (N := 100) hx hb hg inX12 hown hK hP 0 rfl rfl 48 (by decide) (hg _ w1754) (fun _ h9 => h9) rfl dX12_pick_79 ?_
    refine g_top (v := (V533 0 48)) (ajV544 0 48 rfl) ?_
    refine lv_iadd hx hb dX12_pick_82 ?_
    refine lv_topi (fun z547 ez547 => ?_)
    have hz547 : z547.toInt = ((V 0 49)).toInt + ((V533 0 48)).toInt := i_add ez547 rfl rfl (by omega)
    refine va_iast (D := D) (i := z513) (x := z547) hx hb hK hP hD hS 39 38 rfl rfl (i_in (a := z513.toInt) rfl (by omega)) dX12_pick_83 (fun H locs hP hD hS => ?_)
    obtain ⟨V548, hV548⟩ : ∃ z, z = up2 V544 46 (Int32.toNatClampNeg z513) z547 := ⟨_, rfl⟩
    have hP : va_P D vwCl (mw ad kk ks.1 V548 L534) H := by rw [hV548]; exact hP
    have hD : va_D A (mw ad kk ks.1 V548 L534) := by rw [hV548]; exact hD
    have hMV548 : rgd bM V548 := hMV544.put hV548 (i_full _)
    have agV548 : agr [(0, 7), (0, 8), (0, 48), (0, 50)] [35, 36, 37, 38, 45, 46, 47] V V548 := agV544.up hV548 rfl
    have pq549 : (V548 0 7).toInt = ((V544 0 7)).toInt := congrArg Int32.toInt (up2_o hV548 (by decide))
    have pq550 : (V548 0 48).toInt = ((V533 0 48)).toInt := congrArg Int32.toInt ((up2_o hV548 (by decide)).trans (ajV544 0 48 rfl))
    have pq551 : (V548 0 8).toInt = ((V544 0 8)).toInt := congrArg Int32.toInt (up2_o hV548 (by decide))
    have pq552 : (V548 0 50).toInt = ((V533 0 50)).toInt := congrArg Int32.toInt ((up2_o hV548 (by decide)).trans (ajV544 0 50 rfl))
    exact W.vret hx hb hr (fun t ht hW => ⟨⟨(V548, L534), rfl, ⟨hMV548, agV548, alL534, (Imp.mk (fun hp => have hp : (V548 0 8).toInt = 0 := hp; (show (V548 0 48).toInt - (V 0 48).toInt ≤ 2 * ((V548 0 7).toInt - (V 0 7).toInt) from by omega))), (show (V548 0 48).toInt ≤ 8053 - 6 * (V 0 50).toInt from by omega), (show (V548 0 50).toInt = (V 0 50).toInt from by omega), (show (V 0 48).toInt ≤ (V548 0 48).toInt from by omega), (Or.inr ⟨(show 1 ≤ (V548 0 8).toInt from by omega), (fun k => by rw [show (V548 0 8).toInt = (V8 0 8).toInt from by omega]; exact hb454 k)⟩)⟩, by rw [ht]; exact hP, va_K.moved hW.alike hK, hD⟩, hS.F ht⟩) hS.2.2 dX12_pick_84
set_option maxHeartbeats 4000000 in
set_option maxRecDepth 100000 in
theorem s_partA {l : Launch} {D : va_G} {ks : KS} {dd : Nat} (hk_s_partWithinA : ∀ d9, dd = d9 + 1 → K_s_partWithinA l D ks d9) : K_s_partA l D ks dd := by
  intro sz ad kk V L  bq gn gT gs gl gd hMV rel c1 yd c4 em
  refine g_met (q_s_partA D ks ad kk V L  bq gn gT gs gl gd) (by decide) (Nat.le_of_ble_eq_true rfl) ?_
  intro p e s m below meth c A ls H locs hx hb hr hml hown hg hlocks hin hnw hgk hP hK hD hS hA hl
  have hown : s.vm.findClass RX12 = some m.cls := hown
  have hl : lv_has ls 2 [(0, .ref (ad 0))] := hl
  have hP : va_P D vwCl (mw ad kk ks.1 V L) H := hP
  have hD : va_D A (mw ad kk ks.1 V L) := hD
  have hK : va_K D vwCl (mty kk) s := hK
  have agV : agr [(0, 7), (0, 8), (0, 48), (0, 50)] [35, 36, 37, 38, 45, 46, 47] V V := agr.rf
  have alL : agL [35, 36, 37, 38, 45, 46, 47] L L := agL.rf
  have r1 : 0 ≤ ((V 0 48)).toInt ∧ ((V 0 48)).toInt ≤ 10000 := hMV 0 48
  have r2 : 0 ≤ ((V 0 50)).toInt ∧ ((V 0 50)).toInt ≤ 9 := hMV 0 50
  have rg0 := RelM.rg rel
  have cl0 := RelM.cl rel
  have cq0 := RelM.cq rel
  refine lv_aload_n hx hb dX12_part_0 rfl (lv_at hl 0 rfl) ?_
  refine va_get (D := D) (ci := 12) (v := .int (V 0 8)) (C := RX12) (T := TX12) (N := 100) hx hb hg inX12 hown hK hP 0 rfl rfl 8 (by decide) (hg _ w1714) (fun _ h9 => h9) rfl dX12_part_1 ?_
  have r3 : 0 ≤ ((V 0 8)).toInt ∧ ((V 0 8)).toInt ≤ 70000 := hMV 0 8
  refine lv_if_ne (tgt := 22) hx hb dX12_part_4 (by decide) (fun c4 => ?_) (fun c4 => ?_)
  · skip
    have f5 : ((V 0 8)).toInt ≠ 0 := b_neq rfl (by decide) c4
    exfalso; omega
  · skip
    have f6 : ((V 0 8)).toInt = 0 := b_eq rfl (by decide) c4
    refine lv_aload_n hx hb dX12_part_7 rfl (lv_at hl 0 rfl) ?_
    refine gA_int (gA_runV (As := []) (rest := []) (ci := 12) (q0 := 0) hx hb hml hown hg hP hD hK hS hA hnw hgk (s_isPartA l D ks H.size ad kk V L (bq) (gn) (gT) (gs) (gl) hMV rel em) w2132 w2134 w110 w172 w2135 rfl rfl hdV_yX12_isPart ⟨(by show 1 + 1 ≤ 10 * dd + 10; omega), (by show 8 + (1 + 11) + (21) ≤ 300 * dd + 300; omega)⟩ rfl hl.1 rfl (Nat.le_of_ble_eq_true rfl) dX12_part_8 ⟨Nat.le_of_ble_eq_true rfl, Nat.le_of_ble_eq_true rfl⟩) hP hD hK hS hA (fun z7 u8 H locs w9 hP hD hK hS => ?_)
    obtain ⟨rgz7, t10⟩ := w9
    have rgz7 : 0 ≤ z7.toInt ∧ z7.toInt ≤ 1 := rgz7
    have t10 : (z7.toInt = 1 ∧ bgP (gT) (gs)) ∨ (z7.toInt = 0 ∧ ¬ bgP (gT) (gs)) := t10
    rcases t10 with ⟨q11, h12⟩ | ⟨q11, h12⟩
    · skip
      refine lv_if_ne (tgt := 22) hx hb dX12_part_11 (by decide) (fun c13 => ?_) (fun c13 => ?_)
      · skip
        have f14 : z7.toInt ≠ 0 := b_neq rfl (by decide) c13
        refine lv_aload_n hx hb dX12_part_22 rfl (lv_at hl 0 rfl) ?_
        refine va_get (D := D) (ci := 12) (v := .int (V 0 8)) (C := RX12) (T := TX12) (N := 100) hx hb hg inX12 hown hK hP 0 rfl rfl 8 (by decide) (hg _ w1714) (fun _ h9 => h9) rfl dX12_part_23 ?_
        refine lv_if_ne (tgt := 43) hx hb dX12_part_26 (by decide) (fun c15 => ?_) (fun c15 => ?_)
        · skip
          have f16 : ((V 0 8)).toInt ≠ 0 := b_neq rfl (by decide) c15
          exfalso; omega
        · skip
          have f17 : ((V 0 8)).toInt = 0 := b_eq rfl (by decide) c15
          refine lv_aload_n hx hb dX12_part_29 rfl (lv_at hl 0 rfl) ?_
          refine va_get (D := D) (ci := 12) (v := .int (V 0 50)) (C := RX12) (T := TX12) (N := 100) hx hb hg inX12 hown hK hP 0 rfl rfl 50 (by decide) (hg _ w1756) (fun _ h9 => h9) rfl dX12_part_30 ?_
          refine lv_bipush (v := 8) hx hb dX12_part_33 (by decide) ?_
          refine lv_icmp_ne (tgt := 43) hx hb dX12_part_35 (by decide) (fun c18 => ?_) (fun c18 => ?_)
          · skip
            have f19 : ((V 0 50)).toInt ≠ 8 := b_neq rfl (by decide) c18
            refine lv_aload_n hx hb dX12_part_43 rfl (lv_at hl 0 rfl) ?_
            refine lv_dup hx hb dX12_part_44 rfl ?_
            refine va_get (D := D) (ci := 12) (v := .int (V 0 50)) (C := RX12) (T := TX12) (N := 100) hx hb hg inX12 hown hK hP 0 rfl rfl 50 (by decide) (hg _ w1756) (fun _ h9 => h9) rfl dX12_part_45 ?_
            refine lv_iconst (v := 1) hx hb dX12_part_48 (by decide) ?_
            refine lv_iadd hx hb dX12_part_49 ?_
            refine lv_topi (fun z20 ez20 => ?_)
            have hz20 : z20.toInt = ((V 0 50)).toInt + 1 := i_add ez20 rfl (by decide) (by omega)
            refine va_put (D := D) (ci := 12) (v := .int z20) (ty := tyX12 50) (C := RX12) (T := TX12) (N := 100) hx hb hg inX12 tyX12 tyX12_ok nmX12 hown hK hP hD hS 0 rfl rfl 50 (by decide) (hg _ w1756) (fun _ h9 => h9) rfl (tyX12_ok 50 (by decide)) rfl rfl (Nat.le_of_ble_eq_true rfl) dX12_part_50 (fun H locs hP hD hS => ?_)
            obtain ⟨V21, hV21⟩ : ∃ z, z = up2 V 0 50 z20 := ⟨_, rfl⟩
            have hP : va_P D vwCl (mw ad kk ks.1 V21 L) H := by rw [hV21]; exact hP
            have hD : va_D A (mw ad kk ks.1 V21 L) := by rw [hV21]; exact hD
            have hMV21 : rgd bM V21 := hMV.put hV21 (show 0 ≤ z20.toInt ∧ z20.toInt ≤ 9 from by omega)
            have agV21 : agr [(0, 7), (0, 8), (0, 48), (0, 50)] [35, 36, 37, 38, 45, 46, 47] V V21 := agV.up hV21 rfl
            refine lv_aload_n hx hb dX12_part_53 rfl (lv_at hl 0 rfl) ?_
            refine va_get (D := D) (ci := 12) (v := .int (V21 0 8)) (C := RX12) (T := TX12) (N := 100) hx hb hg inX12 hown hK hP 0 rfl rfl 8 (by decide) (hg _ w1714) (fun _ h9 => h9) rfl dX12_part_54 ?_
            refine g_top (v := (V 0 8)) (up2_k hV21 (by decide)) ?_
            refine lv_if_ne (tgt := 72) hx hb dX12_part_57 (by decide) (fun c22 => ?_) (fun c22 => ?_)
            · skip
              have f23 : ((V 0 8)).toInt ≠ 0 := b_neq rfl (by decide) c22
              exfalso; omega
            · skip
              have f24 : ((V 0 8)).toInt = 0 := b_eq rfl (by decide) c22
              refine lv_aload_n hx hb dX12_part_60 rfl (lv_at hl 0 rfl) ?_
              refine lv_iconst (v := 1) hx hb dX12_part_61 (by decide) ?_
              refine lv_iconst (v := 0) hx hb dX12_part_62 (by decide) ?_
              refine lv_iconst (v := 0) hx hb dX12_part_63 (by decide) ?_
              have r25 : Int32.toInt 1 = 1 := by decide
              have r26 : Int32.toInt 0 = 0 := by decide
              have pq27 : (V21 0 48).toInt = ((V 0 48)).toInt := congrArg Int32.toInt (up2_k hV21 (by decide))
              refine gA_int (gA_runV (As := [.int 1, .int 0, .int 0]) (rest := []) (ci := 12) (q0 := 0) hx hb hml hown hg hP hD hK hS hA hnw hgk (s_emit3 l D ks H.size ad kk V21 L 1 0 0 hMV21 (show (V21 0 48).toInt ≤ 9999 from by omega)) w2136 w2138 w111 w172 w2139 rfl rfl hdV_yX12_emit ⟨(by show 0 + 1 ≤ 10 * dd + 10; omega), (by show 8 + (4 + 11) + (0) ≤ 300 * dd + 300; omega)⟩ rfl hl.1 rfl (Nat.le_of_ble_eq_true rfl) dX12_part_64 ⟨Nat.le_of_ble_eq_true rfl, Nat.le_of_ble_eq_true rfl⟩) hP hD hK hS hA (fun z28 u29 H locs w30 hP hD hK hS => ?_)
              obtain ⟨V34, L35⟩ := u29
              obtain ⟨hMV34, ajV34, axL35, rgz28, t31, t32, t33⟩ := w30
              have axL35 : L = L35 := Eq.symm axL35
              subst axL35
              have hP : va_P D vwCl (mw ad kk ks.1 V34 L) H := hP
              have hD : va_D A (mw ad kk ks.1 V34 L) := hD
              have hMV34 : rgd bM V34 := hMV34
              have ajV34 : agr [(0, 48)] [45, 46, 47] V21 V34 := ajV34
              have agV34 : agr [(0, 7), (0, 8), (0, 48), (0, 50)] [35, 36, 37, 38, 45, 46, 47] V V34 := agV21.tr ajV34 (by decide) (by decide)
              have rgz28 : 0 ≤ z28.toInt ∧ z28.toInt ≤ 20000 := rgz28
              have t31 : (V34 0 48).toInt = (V21 0 48).toInt + 1 := t31
              have t32 : z28.toInt = (V21 0 49).toInt + (V21 0 48).toInt := t32
              have t33 : emitted V21 V34 (pA V21) 1 0 0 := t33
              have r36 : 0 ≤ ((V34 0 48)).toInt ∧ ((V34 0 48)).toInt ≤ 10000 := hMV34 0 48
              have pq37 : (V21 0 49).toInt = ((V 0 49)).toInt := congrArg Int32.toInt (up2_k hV21 (by decide))
              have r38 : 0 ≤ ((V 0 49)).toInt ∧ ((V 0 49)).toInt ≤ 10000 := hMV 0 49
              refine lv_istore_n (lv' := [(1, .int z28), (0, .ref (ad 0))]) hx hb dX12_part_67 rfl hl (by decide) rfl (fun ls hl => ?_)
              refine lv_aload_n hx hb dX12_part_68 rfl (lv_at hl 1 rfl) ?_
              obtain ⟨d9, rfl⟩ : ∃ d9, dd = d9 + 1 := ⟨dd - 1, by omega⟩
              have rl39 : RelM V34 L bq gn gT gs gl := RelM.ag rel (show agr [(0, 48), (0, 50)] [45, 46, 47] V V34 from (agr.tr (agr.up agr.rf hV21 rfl) ajV34 (by decide) (by decide))) (by decide) (show agL [] L L from agL.rf) (by decide)
              have hr40 : ∀ k, Rc gT (Crun gs (Ipart gd :: k)) (Crun gs (Ipart gd :: k)) := fun k => Rc.rf
              have pq41 : (V34 0 7).toInt = ((V 0 7)).toInt := congrArg Int32.toInt ((ajV34 0 7 rfl).trans (up2_k hV21 (by decide)))
              have pq42 : (V34 0 50).toInt = z20.toInt := congrArg Int32.toInt ((ajV34 0 50 rfl).trans (up2_s hV21))
              refine gA_void (gA_runV (As := []) (rest := []) (ci := 12) (q0 := 0) hx hb hml hown hg hP hD hK hS hA hnw hgk ((hk_s_partWithinA d9 rfl) H.size ad kk V34 L (bq) (gn) (gT) (gs) (gl) (gd) hMV34 rl39 (show (V34 0 48).toInt ≤ 2 * (V34 0 7).toInt + 1 from by omega) (show (V34 0 50).toInt = ((gd) : Int) + 1 from by omega) (show ((gd) : Int) ≤ 7 from by omega) h12 (show (V34 0 50).toInt + ((d9 : Nat) : Int) = 8 from by omega) (EM.mv em ((ajV34 0 51 rfl).trans (up2_k hV21 (by decide))) ((ajV34 0 52 rfl).trans (up2_k hV21 (by decide))) (by rw [(funext (fun q => ajV34 27 q rfl) : V34 27 = V21 27), (up2_fo hV21 (by decide) : V21 27 = V 27)] : V34 27 = V 27) (fun _ _ => rfl))) w2140 w2142 w112 w172 w2143 rfl rfl hdV_yX12_partWithin ⟨(by show 10 * d9 + 15 + 1 ≤ 10 * (d9 + 1) + 10; omega), (by show 8 + (4 + 11) + (300 * d9 + 500) ≤ 300 * (d9 + 1) + 300; omega)⟩ rfl hl.1 rfl (Nat.le_of_ble_eq_true rfl) dX12_part_69 ⟨Nat.le_of_ble_eq_true rfl, Nat.le_of_ble_eq_true rfl⟩) hP hD hK hS hA (fun u44 H locs w45 hP hD hK hS => ?_)
              obtain ⟨V51, L52⟩ := u44
              obtain ⟨hMV51, ajV51, axL52, t46, t47, t48, t49, t50⟩ := w45
              have alL52 : agL [35, 36, 37, 38, 45, 46, 47] L L52 := agL.tr alL axL52 (by decide)
              have hP : va_P D vwCl (mw ad kk ks.1 V51 L52) H := hP
              have hD : va_D A (mw ad kk ks.1 V51 L52) := hD
              have hMV51 : rgd bM V51 := hMV51
              have ajV51 : agr [(0, 7), (0, 8), (0, 48), (0, 50)] [35, 36, 37, 38, 45, 46, 47] V34 V51 := ajV51
              have agV51 : agr [(0, 7), (0, 8), (0, 48), (0, 50)] [35, 36, 37, 38, 45, 46, 47] V V51 := agV34.tr ajV51 (by decide) (by decide)
              have t46 : Imp ((V51 0 8).toInt = 0) ((V51 0 48).toInt - (V34 0 48).toInt + 1 ≤ 2 * ((V51 0 7).toInt - (V34 0 7).toInt)) := t46
              have t47 : (V51 0 48).toInt ≤ 8054 - 6 * (V34 0 50).toInt := t47
              have t48 : (V51 0 50).toInt = (V34 0 50).toInt := t48
              have t49 : (V34 0 48).toInt ≤ (V51 0 48).toInt := t49
              have t50 : RdM (gT) (gs) (fun k => Ipart (gd) :: k) (fun k => k) (V51 0 8).toInt (fun s9 => RelM V51 L52 (bq) (gn) (gT) s9 (gl) ∧ keepS (gs) 1 s9) := t50
              have r53 : 0 ≤ ((V51 0 48)).toInt ∧ ((V51 0 48)).toInt ≤ 10000 := hMV51 0 48
              have r54 : 0 ≤ ((V51 0 8)).toInt ∧ ((V51 0 8)).toInt ≤ 70000 := hMV51 0 8
              have r55 : 0 ≤ ((V51 0 50)).toInt ∧ ((V51 0 50)).toInt ≤ 9 := hMV51 0 50
              rcases t50 with ⟨q56, sx57, h58, rl59, kp60⟩ | ⟨q56, h58⟩
              · skip
                have hr61 : ∀ k, Rc gT (Crun gs (Ipart gd :: k)) (Crun sx57 (k)) := fun k => (hr40 k).tr (h58 (k))
                have fz62 := RelM.rg rl59
                have ps63 := (kp60).1
                refine lv_aload_n hx hb dX12_part_72 rfl (lv_at hl 1 rfl) ?_
                refine lv_dup hx hb dX12_part_73 rfl ?_
                refine va_get (D := D) (ci := 12) (v := .int (V51 0 50)) (C := RX12) (T := TX12) (N := 100) hx hb hg inX12 hown hK hP 0 rfl rfl 50 (by decide) (hg _ w1756) (fun _ h9 => h9) rfl dX12_part_74 ?_
                refine lv_iconst (v := 1) hx hb dX12_part_77 (by decide) ?_
                refine lv_isub hx hb dX12_part_78 ?_
                refine lv_topi (fun z64 ez64 => ?_)
                have hz64 : z64.toInt = ((V51 0 50)).toInt - 1 := i_sub ez64 rfl (by decide) (by omega)
                refine va_put (D := D) (ci := 12) (v := .int z64) (ty := tyX12 50) (C := RX12) (T := TX12) (N := 100) hx hb hg inX12 tyX12 tyX12_ok nmX12 hown hK hP hD hS 0 rfl rfl 50 (by decide) (hg _ w1756) (fun _ h9 => h9) rfl (tyX12_ok 50 (by decide)) rfl rfl (Nat.le_of_ble_eq_true rfl) dX12_part_79 (fun H locs hP hD hS => ?_)
                obtain ⟨V65, hV65⟩ : ∃ z, z = up2 V51 0 50 z64 := ⟨_, rfl⟩
                have hP : va_P D vwCl (mw ad kk ks.1 V65 L52) H := by rw [hV65]; exact hP
                have hD : va_D A (mw ad kk ks.1 V65 L52) := by rw [hV65]; exact hD
                have hMV65 : rgd bM V65 := hMV51.put hV65 (show 0 ≤ z64.toInt ∧ z64.toInt ≤ 9 from by first | omega | ((try (have i_t46 := Imp.go t46 (by omega))); omega))
                have agV65 : agr [(0, 7), (0, 8), (0, 48), (0, 50)] [35, 36, 37, 38, 45, 46, 47] V V65 := agV51.up hV65 rfl
                have pq66 : (V65 0 7).toInt = ((V51 0 7)).toInt := congrArg Int32.toInt (up2_k hV65 (by decide))
                have pq67 : (V65 0 48).toInt = ((V51 0 48)).toInt := congrArg Int32.toInt (up2_k hV65 (by decide))
                have pq68 : (V65 0 8).toInt = ((V51 0 8)).toInt := congrArg Int32.toInt (up2_k hV65 (by decide))
                have pq69 : (V65 0 50).toInt = z64.toInt := congrArg Int32.toInt (up2_s hV65)
                have rl70 : RelM V65 L52 bq gn gT sx57 gl := RelM.ag rl59 (show agr [(0, 50)] [] V51 V65 from (agr.up agr.rf hV65 rfl)) (by decide) (show agL [] L52 L52 from agL.rf) (by decide)
                exact W.vret hx hb hr (fun t ht hW => ⟨⟨(V65, L52), rfl, ⟨hMV65, agV65, alL52, (Imp.mk (fun hp => have hp : (V65 0 8).toInt = 0 := hp; (show (V65 0 48).toInt - (V 0 48).toInt ≤ 2 * ((V65 0 7).toInt - (V 0 7).toInt) from by first | omega | ((try (have i_t46 := Imp.go t46 (by omega))); omega)))), (show (V65 0 48).toInt ≤ 8048 - 6 * (V 0 50).toInt from by first | omega | ((try (have i_t46 := Imp.go t46 (by omega))); omega)), (show (V65 0 50).toInt = (V 0 50).toInt from by first | omega | ((try (have i_t46 := Imp.go t46 (by omega))); omega)), (show (V 0 48).toInt ≤ (V65 0 48).toInt from by first | omega | ((try (have i_t46 := Imp.go t46 (by omega))); omega)), (Or.inl ⟨W0 rl70, sx57, hr61, rl70, keepS.le (keepS.tr (keepS.rf : keepS gs 0 gs) kp60) (by decide)⟩)⟩, by rw [ht]; exact hP, va_K.moved hW.alike hK, hD⟩, hS.F ht⟩) hS.2.2 dX12_part_82
              · skip
                have hb71 : ∀ k, Rc gT (Crun gs (Ipart gd :: k)) (Cbad (V51 0 8).toInt) := fun k => (hr40 k).tr (h58 (k))
                refine lv_aload_n hx hb dX12_part_72 rfl (lv_at hl 1 rfl) ?_
                refine lv_dup hx hb dX12_part_73 rfl ?_
                refine va_get (D := D) (ci := 12) (v := .int (V51 0 50)) (C := RX12) (T := TX12) (N := 100) hx hb hg inX12 hown hK hP 0 rfl rfl 50 (by decide) (hg _ w1756) (fun _ h9 => h9) rfl dX12_part_74 ?_
                refine lv_iconst (v := 1) hx hb dX12_part_77 (by decide) ?_
                refine lv_isub hx hb dX12_part_78 ?_
                refine lv_topi (fun z72 ez72 => ?_)
                have hz72 : z72.toInt = ((V51 0 50)).toInt - 1 := i_sub ez72 rfl (by decide) (by omega)
                refine va_put (D := D) (ci := 12) (v := .int z72) (ty := tyX12 50) (C := RX12) (T := TX12) (N := 100) hx hb hg inX12 tyX12 tyX12_ok nmX12 hown hK hP hD hS 0 rfl rfl 50 (by decide) (hg _ w1756) (fun _ h9 => h9) rfl (tyX12_ok 50 (by decide)) rfl rfl (Nat.le_of_ble_eq_true rfl) dX12_part_79 (fun H locs hP hD hS => ?_)
                obtain ⟨V73, hV73⟩ : ∃ z, z = up2 V51 0 50 z72 := ⟨_, rfl⟩
                have hP : va_P D vwCl (mw ad kk ks.1 V73 L52) H := by rw [hV73]; exact hP
                have hD : va_D A (mw ad kk ks.1 V73 L52) := by rw [hV73]; exact hD
                have hMV73 : rgd bM V73 := hMV51.put hV73 (show 0 ≤ z72.toInt ∧ z72.toInt ≤ 9 from by first | omega | ((try (have i_t46 := Imp.go t46 (by omega))); omega))
                have agV73 : agr [(0, 7), (0, 8), (0, 48), (0, 50)] [35, 36, 37, 38, 45, 46, 47] V V73 := agV51.up hV73 rfl
                have pq74 : (V73 0 7).toInt = ((V51 0 7)).toInt := congrArg Int32.toInt (up2_k hV73 (by decide))
                have pq75 : (V73 0 48).toInt = ((V51 0 48)).toInt := congrArg Int32.toInt (up2_k hV73 (by decide))
                have pq76 : (V73 0 8).toInt = ((V51 0 8)).toInt := congrArg Int32.toInt (up2_k hV73 (by decide))
                have pq77 : (V73 0 50).toInt = z72.toInt := congrArg Int32.toInt (up2_s hV73)
                exact W.vret hx hb hr (fun t ht hW => ⟨⟨(V73, L52), rfl, ⟨hMV73, agV73, alL52, (Imp.mk (fun hp => have hp : (V73 0 8).toInt = 0 := hp; (show (V73 0 48).toInt - (V 0 48).toInt ≤ 2 * ((V73 0 7).toInt - (V 0 7).toInt) from by first | omega | ((try (have i_t46 := Imp.go t46 (by omega))); omega)))), (show (V73 0 48).toInt ≤ 8048 - 6 * (V 0 50).toInt from by first | omega | ((try (have i_t46 := Imp.go t46 (by omega))); omega)), (show (V73 0 50).toInt = (V 0 50).toInt from by first | omega | ((try (have i_t46 := Imp.go t46 (by omega))); omega)), (show (V 0 48).toInt ≤ (V73 0 48).toInt from by first | omega | ((try (have i_t46 := Imp.go t46 (by omega))); omega)), (Or.inr ⟨(show 1 ≤ (V73 0 8).toInt from by omega), (fun k => by rw [show (V73 0 8).toInt = (V51 0 8).toInt from by omega]; exact hb71 k)⟩)⟩, by rw [ht]; exact hP, va_K.moved hW.alike hK, hD⟩, hS.F ht⟩) hS.2.2 dX12_part_82
          · skip
            have f78 : ((V 0 50)).toInt = 8 := b_eq rfl (by decide) c18
            refine lv_aload_n hx hb dX12_part_38 rfl (lv_at hl 0 rfl) ?_
            refine lv_iconst (v := 5) hx hb dX12_part_39 (by decide) ?_
            have r79 : Int32.toInt 5 = 5 := by decide
            refine gA_void (gA_runV (As := [.int 5]) (rest := []) (ci := 12) (q0 := 0) hx hb hml hown hg hP hD hK hS hA hnw hgk (s_wrongA l D ks H.size ad kk V L 5 (bq) (gn) (gT) (gs) (gl) hMV (by decide) rel) w2035 w2037 w86 w172 w2038 rfl rfl hdV_yX12_wrong ⟨(by show 0 + 1 ≤ 10 * dd + 10; omega), (by show 8 + (2 + 11) + (0) ≤ 300 * dd + 300; omega)⟩ rfl hl.1 rfl (Nat.le_of_ble_eq_true rfl) dX12_part_40 ⟨Nat.le_of_ble_eq_true rfl, Nat.le_of_ble_eq_true rfl⟩) hP hD hK hS hA (fun u81 H locs w82 hP hD hK hS => ?_)
            obtain ⟨V85, L86⟩ := u81
            obtain ⟨hMV85, ajV85, axL86, t83, t84⟩ := w82
            have axL86 : L = L86 := Eq.symm axL86
            subst axL86
            have hP : va_P D vwCl (mw ad kk ks.1 V85 L) H := hP
            have hD : va_D A (mw ad kk ks.1 V85 L) := hD
            have hMV85 : rgd bM V85 := hMV85
            have ajV85 : agr [(0, 8)] [] V V85 := ajV85
            have agV85 : agr [(0, 7), (0, 8), (0, 48), (0, 50)] [35, 36, 37, 38, 45, 46, 47] V V85 := agV.tr ajV85 (by decide) (by decide)
            have t83 : 1 ≤ (V85 0 8).toInt := t83
            have t84 : (V85 0 8).toInt = (Int32.toInt 5) + 16 * (gT).2.2 ((gs).1 0) := t84
            have r87 : 0 ≤ ((V85 0 8)).toInt ∧ ((V85 0 8)).toInt ≤ 70000 := hMV85 0 8
            have hr88 : ∀ k, Rc gT (Crun gs (Ipart gd :: k)) (Crun gs (Ipart gd :: k)) := fun k => Rc.rf
            have hb89 : ∀ k, Rc gT (Crun gs (Ipart gd :: k)) (Cbad (V85 0 8).toInt) := fun k => Rc.go1 (hr88 k) ((part_5 gd h12 (by omega)).trans (fl_eq rfl (show (V85 0 8).toInt = 5 + 16 * gT.2.2 (gs.1 0) from by omega)))
            refine lv_aload_n hx hb dX12_part_43 rfl (lv_at hl 0 rfl) ?_
            refine lv_dup hx hb dX12_part_44 rfl ?_
            refine va_get (D := D) (ci := 12) (v := .int (V85 0 50)) (C := RX12) (T := TX12) (N := 100) hx hb hg inX12 hown hK hP 0 rfl rfl 50 (by decide) (hg _ w1756) (fun _ h9 => h9) rfl dX12_part_45 ?_
            refine g_top (v := (V 0 50)) (ajV85 0 50 rfl) ?_
            refine lv_iconst (v := 1) hx hb dX12_part_48 (by decide) ?_
            refine lv_iadd hx hb dX12_part_49 ?_
            refine lv_topi (fun z90 ez90 => ?_)
            have hz90 : z90.toInt = ((V 0 50)).toInt + 1 := i_add ez90 rfl (by decide) (by omega)
            refine va_put (D := D) (ci := 12) (v := .int z90) (ty := tyX12 50) (C := RX12) (T := TX12) (N := 100) hx hb hg inX12 tyX12 tyX12_ok nmX12 hown hK hP hD hS 0 rfl rfl 50 (by decide) (hg _ w1756) (fun _ h9 => h9) rfl (tyX12_ok 50 (by decide)) rfl rfl (Nat.le_of_ble_eq_true rfl) dX12_part_50 (fun H locs hP hD hS => ?_)
            obtain ⟨V91, hV91⟩ : ∃ z, z = up2 V85 0 50 z90 := ⟨_, rfl⟩
            have hP : va_P D vwCl (mw ad kk ks.1 V91 L) H := by rw [hV91]; exact hP
            have hD : va_D A (mw ad kk ks.1 V91 L) := by rw [hV91]; exact hD
            have hMV91 : rgd bM V91 := hMV85.put hV91 (show 0 ≤ z90.toInt ∧ z90.toInt ≤ 9 from by omega)
            have agV91 : agr [(0, 7), (0, 8), (0, 48), (0, 50)] [35, 36, 37, 38, 45, 46, 47] V V91 := agV85.up hV91 rfl
            refine lv_aload_n hx hb dX12_part_53 rfl (lv_at hl 0 rfl) ?_
            refine va_get (D := D) (ci := 12) (v := .int (V91 0 8)) (C := RX12) (T := TX12) (N := 100) hx hb hg inX12 hown hK hP 0 rfl rfl 8 (by decide) (hg _ w1714) (fun _ h9 => h9) rfl dX12_part_54 ?_
            refine g_top (v := (V85 0 8)) (up2_k hV91 (by decide)) ?_
            refine lv_if_ne (tgt := 72) hx hb dX12_part_57 (by decide) (fun c92 => ?_) (fun c92 => ?_)
            · skip
              have f93 : ((V85 0 8)).toInt ≠ 0 := b_neq rfl (by decide) c92
              refine lv_aload_n hx hb dX12_part_72 rfl (lv_at hl 0 rfl) ?_
              refine lv_dup hx hb dX12_part_73 rfl ?_
              refine va_get (D := D) (ci := 12) (v := .int (V91 0 50)) (C := RX12) (T := TX12) (N := 100) hx hb hg inX12 hown hK hP 0 rfl rfl 50 (by decide) (hg _ w1756) (fun _ h9 => h9) rfl dX12_part_74 ?_
              refine g_top (v := z90) (up2_s hV91) ?_
              refine lv_iconst (v := 1) hx hb dX12_part_77 (by decide) ?_
              refine lv_isub hx hb dX12_part_78 ?_
              refine lv_topi (fun z94 ez94 => ?_)
              have hz94 : z94.toInt = z90.toInt - 1 := i_sub ez94 rfl (by decide) (by omega)
              refine va_put (D := D) (ci := 12) (v := .int z94) (ty := tyX12 50) (C := RX12) (T := TX12) (N := 100) hx hb hg inX12 tyX12 tyX12_ok nmX12 hown hK hP hD hS 0 rfl rfl 50 (by decide) (hg _ w1756) (fun _ h9 => h9) rfl (tyX12_ok 50 (by decide)) rfl rfl (Nat.le_of_ble_eq_true rfl) dX12_part_79 (fun H locs hP hD hS => ?_)
              obtain ⟨V95, hV95⟩ : ∃ z, z = up2 V91 0 50 z94 := ⟨_, rfl⟩
              have hP : va_P D vwCl (mw ad kk ks.1 V95 L) H := by rw [hV95]; exact hP
              have hD : va_D A (mw ad kk ks.1 V95 L) := by rw [hV95]; exact hD
              have hMV95 : rgd bM V95 := hMV91.put hV95 (show 0 ≤ z94.toInt ∧ z94.toInt ≤ 9 from by omega)
              have agV95 : agr [(0, 7), (0, 8), (0, 48), (0, 50)] [35, 36, 37, 38, 45, 46, 47] V V95 := agV91.up hV95 rfl
              have pq96 : (V95 0 7).toInt = ((V 0 7)).toInt := congrArg Int32.toInt ((up2_k hV95 (by decide)).trans ((up2_k hV91 (by decide)).trans (ajV85 0 7 rfl)))
              have pq97 : (V95 0 48).toInt = ((V 0 48)).toInt := congrArg Int32.toInt ((up2_k hV95 (by decide)).trans ((up2_k hV91 (by decide)).trans (ajV85 0 48 rfl)))
              have pq98 : (V95 0 8).toInt = ((V85 0 8)).toInt := congrArg Int32.toInt ((up2_k hV95 (by decide)).trans (up2_k hV91 (by decide)))
              have pq99 : (V95 0 50).toInt = z94.toInt := congrArg Int32.toInt (up2_s hV95)
              exact W.vret hx hb hr (fun t ht hW => ⟨⟨(V95, L), rfl, ⟨hMV95, agV95, alL, (Imp.mk (fun hp => have hp : (V95 0 8).toInt = 0 := hp; (show (V95 0 48).toInt - (V 0 48).toInt ≤ 2 * ((V95 0 7).toInt - (V 0 7).toInt) from by omega))), (show (V95 0 48).toInt ≤ 8048 - 6 * (V 0 50).toInt from by omega), (show (V95 0 50).toInt = (V 0 50).toInt from by omega), (show (V 0 48).toInt ≤ (V95 0 48).toInt from by omega), (Or.inr ⟨(show 1 ≤ (V95 0 8).toInt from by omega), (fun k => by rw [show (V95 0 8).toInt = (V85 0 8).toInt from by omega]; exact hb89 k)⟩)⟩, by rw [ht]; exact hP, va_K.moved hW.alike hK, hD⟩, hS.F ht⟩) hS.2.2 dX12_part_82
            · skip
              have f100 : ((V85 0 8)).toInt = 0 := b_eq rfl (by decide) c92
              exfalso; omega
      · skip
        have f101 : z7.toInt = 0 := b_eq rfl (by decide) c13
        exfalso; omega
    · skip
      refine lv_if_ne (tgt := 22) hx hb dX12_part_11 (by decide) (fun c102 => ?_) (fun c102 => ?_)
      · skip
        have f103 : z7.toInt ≠ 0 := b_neq rfl (by decide) c102
        exfalso; omega
      · skip
        have f104 : z7.toInt = 0 := b_eq rfl (by decide) c102
        refine lv_aload_n hx hb dX12_part_14 rfl (lv_at hl 0 rfl) ?_
        refine lv_iconst (v := 1) hx hb dX12_part_15 (by decide) ?_
        have r105 : Int32.toInt 1 = 1 := by decide
        refine gA_void (gA_runV (As := [.int 1]) (rest := []) (ci := 12) (q0 := 0) hx hb hml hown hg hP hD hK hS hA hnw hgk (s_wrongA l D ks H.size ad kk V L 1 (bq) (gn) (gT) (gs) (gl) hMV (by decide) rel) w2035 w2037 w86 w172 w2038 rfl rfl hdV_yX12_wrong ⟨(by show 0 + 1 ≤ 10 * dd + 10; omega), (by show 8 + (2 + 11) + (0) ≤ 300 * dd + 300; omega)⟩ rfl hl.1 rfl (Nat.le_of_ble_eq_true rfl) dX12_part_16 ⟨Nat.le_of_ble_eq_true rfl, Nat.le_of_ble_eq_true rfl⟩) hP hD hK hS hA (fun u107 H locs w108 hP hD hK hS => ?_)
        obtain ⟨V111, L112⟩ := u107
        obtain ⟨hMV111, ajV111, axL112, t109, t110⟩ := w108
        have axL112 : L = L112 := Eq.symm axL112
        subst axL112
        have hP : va_P D vwCl (mw ad kk ks.1 V111 L) H := hP
        have hD : va_D A (mw ad kk ks.1 V111 L) := hD
        have hMV111 : rgd bM V111 := hMV111
        have ajV111 : agr [(0, 8)] [] V V111 := ajV111
        have agV111 : agr [(0, 7), (0, 8), (0, 48), (0, 50)] [35, 36, 37, 38, 45, 46, 47] V V111 := agV.tr ajV111 (by decide) (by decide)
        have t109 : 1 ≤ (V111 0 8).toInt := t109
        have t110 : (V111 0 8).toInt = (Int32.toInt 1) + 16 * (gT).2.2 ((gs).1 0) := t110
        have r113 : 0 ≤ ((V111 0 8)).toInt ∧ ((V111 0 8)).toInt ≤ 70000 := hMV111 0 8
        have hr114 : ∀ k, Rc gT (Crun gs (Ipart gd :: k)) (Crun gs (Ipart gd :: k)) := fun k => Rc.rf
        have hb115 : ∀ k, Rc gT (Crun gs (Ipart gd :: k)) (Cbad (V111 0 8).toInt) := fun k => Rc.go1 (hr114 k) ((part_1 gd h12).trans (fl_eq rfl (show (V111 0 8).toInt = 1 + 16 * gT.2.2 (gs.1 0) from by omega)))
        refine lv_goto (tgt := 43) hx hb dX12_part_19 (by decide) ?_
        refine lv_aload_n hx hb dX12_part_43 rfl (lv_at hl 0 rfl) ?_
        refine lv_dup hx hb dX12_part_44 rfl ?_
        refine va_get (D := D) (ci := 12) (v := .int (V111 0 50)) (C := RX12) (T := TX12) (N := 100) hx hb hg inX12 hown hK hP 0 rfl rfl 50 (by decide) (hg _ w1756) (fun _ h9 => h9) rfl dX12_part_45 ?_
        refine g_top (v := (V 0 50)) (ajV111 0 50 rfl) ?_
        refine lv_iconst (v := 1) hx hb dX12_part_48 (by decide) ?_
        refine lv_iadd hx hb dX12_part_49 ?_
        refine lv_topi (fun z116 ez116 => ?_)
        have hz116 : z116.toInt = ((V 0 50)).toInt + 1 := i_add ez116 rfl (by decide) (by omega)
        refine va_put (D := D) (ci := 12) (v := .int z116) (ty := tyX12 50) (C := RX12) (T := TX12) (N := 100) hx hb hg inX12 tyX12 tyX12_ok nmX12 hown hK hP hD hS 0 rfl rfl 50 (by decide) (hg _ w1756) (fun _ h9 => h9) rfl (tyX12_ok 50 (by decide)) rfl rfl (Nat.le_of_ble_eq_true rfl) dX12_part_50 (fun H locs hP hD hS => ?_)
        obtain ⟨V117, hV117⟩ : ∃ z, z = up2 V111 0 50 z116 := ⟨_, rfl⟩
        have hP : va_P D vwCl (mw ad kk ks.1 V117 L) H := by rw [hV117]; exact hP
        have hD : va_D A (mw ad kk ks.1 V117 L) := by rw [hV117]; exact hD
        have hMV117 : rgd bM V117 := hMV111.put hV117 (show 0 ≤ z116.toInt ∧ z116.toInt ≤ 9 from by omega)
        have agV117 : agr [(0, 7), (0, 8), (0, 48), (0, 50)] [35, 36, 37, 38, 45, 46, 47] V V117 := agV111.up hV117 rfl
        refine lv_aload_n hx hb dX12_part_53 rfl (lv_at hl 0 rfl) ?_
        refine va_get (D := D) (ci := 12) (v := .int (V117 0 8)) (C := RX12) (T := TX12) (N := 100) hx hb hg inX12 hown hK hP 0 rfl rfl 8 (by decide) (hg _ w1714) (fun _ h9 => h9) rfl dX12_part_54 ?_
        refine g_top (v := (V111 0 8)) (up2_k hV117 (by decide)) ?_
        refine lv_if_ne (tgt := 72) hx hb dX12_part_57 (by decide) (fun c118 => ?_) (fun c118 => ?_)
        · skip
          have f119 : ((V111 0 8)).toInt ≠ 0 := b_neq rfl (by decide) c118
          refine lv_aload_n hx hb dX12_part_72 rfl (lv_at hl 0 rfl) ?_
          refine lv_dup hx hb dX12_part_73 rfl ?_
          refine va_get (D := D) (ci := 12) (v := .int (V117 0 50)) (C := RX12) (T := TX12) (N := 100) hx hb hg inX12 hown hK hP 0 rfl rfl 50 (by decide) (hg _ w1756) (fun _ h9 => h9) rfl dX12_part_74 ?_
          refine g_top (v := z116) (up2_s hV117) ?_
          refine lv_iconst (v := 1) hx hb dX12_part_77 (by decide) ?_
          refine lv_isub hx hb dX12_part_78 ?_
          refine lv_topi (fun z120 ez120 => ?_)
          have hz120 : z120.toInt = z116.toInt - 1 := i_sub ez120 rfl (by decide) (by omega)
          refine va_put (D := D) (ci := 12) (v := .int z120) (ty := tyX12 50) (C := RX12) (T := TX12) (N := 100) hx hb hg inX12 tyX12 tyX12_ok nmX12 hown hK hP hD hS 0 rfl rfl 50 (by decide) (hg _ w1756) (fun _ h9 => h9) rfl (tyX12_ok 50 (by decide)) rfl rfl (Nat.le_of_ble_eq_true rfl) dX12_part_79 (fun H locs hP hD hS => ?_)
          obtain ⟨V121, hV121⟩ : ∃ z, z = up2 V117 0 50 z120 := ⟨_, rfl⟩
          have hP : va_P D vwCl (mw ad kk ks.1 V121 L) H := by rw [hV121]; exact hP
          have hD : va_D A (mw ad kk ks.1 V121 L) := by rw [hV121]; exact hD
          have hMV121 : rgd bM V121 := hMV117.put hV121 (show 0 ≤ z120.toInt ∧ z120.toInt ≤ 9 from by omega)
          have agV121 : agr [(0, 7), (0, 8), (0, 48), (0, 50)] [35, 36, 37, 38, 45, 46, 47] V V121 := agV117.up hV121 rfl
          have pq122 : (V121 0 7).toInt = ((V 0 7)).toInt := congrArg Int32.toInt ((up2_k hV121 (by decide)).trans ((up2_k hV117 (by decide)).trans (ajV111 0 7 rfl)))
          have pq123 : (V121 0 48).toInt = ((V 0 48)).toInt := congrArg Int32.toInt ((up2_k hV121 (by decide)).trans ((up2_k hV117 (by decide)).trans (ajV111 0 48 rfl)))
          have pq124 : (V121 0 8).toInt = ((V111 0 8)).toInt := congrArg Int32.toInt ((up2_k hV121 (by decide)).trans (up2_k hV117 (by decide)))
          have pq125 : (V121 0 50).toInt = z120.toInt := congrArg Int32.toInt (up2_s hV121)
          exact W.vret hx hb hr (fun t ht hW => ⟨⟨(V121, L), rfl, ⟨hMV121, agV121, alL, (Imp.mk (fun hp => have hp : (V121 0 8).toInt = 0 := hp; (show (V121 0 48).toInt - (V 0 48).toInt ≤ 2 * ((V121 0 7).toInt - (V 0 7).toInt) from by omega))), (show (V121 0 48).toInt ≤ 8048 - 6 * (V 0 50).toInt from by omega), (show (V121 0 50).toInt = (V 0 50).toInt from by omega), (show (V 0 48).toInt ≤ (V121 0 48).toInt from by omega), (Or.inr ⟨(show 1 ≤ (V121 0 8).toInt from by omega), (fun k => by rw [show (V121 0 8).toInt = (V111 0 8).toInt from by omega]; exact hb115 k)⟩)⟩, by rw [ht]; exact hP, va_K.moved hW.alike hK, hD⟩, hS.F ht⟩) hS.2.2 dX12_part_82
        · skip
          have f126 : ((V111 0 8)).toInt = 0 := b_eq rfl (by decide) c118
          exfalso; omega
set_option maxHeartbeats 4000000 in
set_option maxRecDepth 100000 in
theorem s_partWithinA {l : Launch} {D : va_G} {ks : KS} {dd : Nat} (hk_s_expressionA : K_s_expressionA l D ks dd) (hk_s_partA : K_s_partA l D ks dd) (hk_s_bracketedA : K_s_bracketedA l D ks dd) (hk_s_pickA : K_s_pickA l D ks dd) : K_s_partWithinA l D ks dd := by
  intro sz ad kk V L  bq gn gT gs gl gd hMV rel c1 yd g8 bg c4 em
  refine g_met (q_s_partWithinA D ks ad kk V L  bq gn gT gs gl gd) (by decide) (Nat.le_of_ble_eq_true rfl) ?_
  intro p e s m below meth c A ls H locs hx hb hr hml hown hg hlocks hin hnw hgk hP hK hD hS hA hl
  have hown : s.vm.findClass RX12 = some m.cls := hown
  have hl : lv_has ls 4 [(0, .ref (ad 0))] := hl
  have hP : va_P D vwCl (mw ad kk ks.1 V L) H := hP
  have hD : va_D A (mw ad kk ks.1 V L) := hD
  have hK : va_K D vwCl (mty kk) s := hK
  have agV : agr [(0, 7), (0, 8), (0, 48), (0, 50)] [35, 36, 37, 38, 45, 46, 47] V V := agr.rf
  have alL : agL [35, 36, 37, 38, 45, 46, 47] L L := agL.rf
  have r1 : 0 ≤ ((V 0 48)).toInt ∧ ((V 0 48)).toInt ≤ 10000 := hMV 0 48
  have r2 : 0 ≤ ((V 0 50)).toInt ∧ ((V 0 50)).toInt ≤ 9 := hMV 0 50
  have rg0 := RelM.rg rel
  have cl0 := RelM.cl rel
  have cq0 := RelM.cq rel
  refine lv_aload_n hx hb dX12_partWithin_0 rfl (lv_at hl 0 rfl) ?_
  refine va_get (D := D) (ci := 12) (v := .ref (ad 4)) (C := RX12) (T := TX12) (N := 100) hx hb hg inX12 hown hK hP 0 rfl rfl 4 (by decide) (hg _ w1710) (fun _ h9 => h9) rfl dX12_partWithin_1 ?_
  refine lv_aload_n hx hb dX12_partWithin_4 rfl (lv_at hl 0 rfl) ?_
  refine va_get (D := D) (ci := 12) (v := .int (V 0 7)) (C := RX12) (T := TX12) (N := 100) hx hb hg inX12 hown hK hP 0 rfl rfl 7 (by decide) (hg _ w1713) (fun _ h9 => h9) rfl dX12_partWithin_5 ?_
  refine va_iald (D := D) (i := (V 0 7)) hx hb hK hP 2 1 rfl rfl (i_in (a := ((V 0 7)).toInt) rfl (by omega)) dX12_partWithin_8 ?_
  refine lv_iconst (v := 2) hx hb dX12_partWithin_9 (by decide) ?_
  refine lv_icmp_ne (tgt := 43) hx hb dX12_partWithin_10 (by decide) (fun c3 => ?_) (fun c3 => ?_)
  · skip
    have f4 : ((V 4 (Int32.toNatClampNeg (V 0 7)))).toInt ≠ 2 := b_neq rfl (by decide) c3
    have kd5 : gT.1 (gs.1 0) ≠ 2 := fun h9 => by have z := (RelM.nb rel).mpr h9; rw [← cl0] at z; omega
    refine lv_aload_n hx hb dX12_partWithin_43 rfl (lv_at hl 0 rfl) ?_
    refine lv_bipush (v := 40) hx hb dX12_partWithin_44 (by decide) ?_
    have r6 : Int32.toInt 40 = 40 := by decide
    refine gA_int (gA_runV (As := [.int 40]) (rest := []) (ci := 12) (q0 := 0) hx hb hml hown hg hP hD hK hS hA hnw hgk (s_hasSignA l D ks H.size ad kk V L 40 (bq) (gn) (gT) (gs) (gl) hMV rel (sg_yes (j := 40) (by decide) (by decide) (by decide))) w2067 w2069 w94 w172 w2070 rfl rfl hdV_yX12_hasSign ⟨(by show 1 + 1 ≤ 10 * dd + 15; omega), (by show 8 + (3 + 11) + (21) ≤ 300 * dd + 500; omega)⟩ rfl hl.1 rfl (Nat.le_of_ble_eq_true rfl) dX12_partWithin_46 ⟨Nat.le_of_ble_eq_true rfl, Nat.le_of_ble_eq_true rfl⟩) hP hD hK hS hA (fun z7 u8 H locs w9 hP hD hK hS => ?_)
    obtain ⟨V11, L12⟩ := u8
    obtain ⟨hMV11, ajV11, axL12, rgz7, t10⟩ := w9
    have axL12 : L = L12 := Eq.symm axL12
    subst axL12
    have hP : va_P D vwCl (mw ad kk ks.1 V11 L) H := hP
    have hD : va_D A (mw ad kk ks.1 V11 L) := hD
    have hMV11 : rgd bM V11 := hMV11
    have ajV11 : agr [(0, 7)] [] V V11 := ajV11
    have agV11 : agr [(0, 7), (0, 8), (0, 48), (0, 50)] [35, 36, 37, 38, 45, 46, 47] V V11 := agV.tr ajV11 (by decide) (by decide)
    have rgz7 : 0 ≤ z7.toInt ∧ z7.toInt ≤ 1 := rgz7
    have t10 : (z7.toInt = 1 ∧ (gT).1 ((gs).1 0) = (Int32.toInt 40) ∧ RelM V11 L (bq) (gn) (gT) (nx (gs) 1) (gl)) ∨ (z7.toInt = 0 ∧ (gT).1 ((gs).1 0) ≠ (Int32.toInt 40) ∧ RelM V11 L (bq) (gn) (gT) (gs) (gl)) := t10
    rcases t10 with ⟨q13, h14, rl15⟩ | ⟨q13, h14, rl15⟩
    · skip
      have kd16 : gT.1 (gs.1 0) = 40 := h14.trans (by decide)
      have ps17 : (nx gs 1).1 0 = gs.1 0 + 1 := rfl
      have fz18 := RelM.rg rl15
      have pq19 : (V11 0 8).toInt = ((V 0 8)).toInt := congrArg Int32.toInt (ajV11 0 8 rfl)
      have r20 : 0 ≤ ((V 0 8)).toInt ∧ ((V 0 8)).toInt ≤ 70000 := hMV 0 8
      refine lv_if_eq (tgt := 65) hx hb dX12_partWithin_49 (by decide) (fun c21 => ?_) (fun c21 => ?_)
      · skip
        have f22 : z7.toInt = 0 := b_eq rfl (by decide) c21
        exfalso; omega
      · skip
        have f23 : z7.toInt ≠ 0 := b_neq rfl (by decide) c21
        have hr24 : ∀ k, Rc gT (Crun gs (Ipart gd :: k)) (Crun gs (Ipart gd :: k)) := fun k => Rc.rf
        have hr25 : ∀ k, Rc gT (Crun gs (Ipart gd :: k)) (Crun (nx gs 1) (Iexpr (gd + 1) :: Itake 41 :: k)) := fun k => Rc.go1 (hr24 k) (pw_40 gd bg (by omega) kd16)
        refine lv_aload_n hx hb dX12_partWithin_52 rfl (lv_at hl 0 rfl) ?_
        have pq26 : (V11 0 48).toInt = ((V 0 48)).toInt := congrArg Int32.toInt (ajV11 0 48 rfl)
        have pq27 : (V11 0 50).toInt = ((V 0 50)).toInt := congrArg Int32.toInt (ajV11 0 50 rfl)
        refine gA_void (gA_runV (As := []) (rest := []) (ci := 12) (q0 := 0) hx hb hml hown hg hP hD hK hS hA hnw hgk (hk_s_expressionA H.size ad kk V11 L (bq) (gn) (gT) ((nx gs 1)) (gl) ((gd + 1)) hMV11 rl15 (show (V11 0 48).toInt ≤ 2 * (V11 0 7).toInt from by omega) (show (V11 0 50).toInt = (((gd + 1)) : Int) from by omega) (show (V11 0 50).toInt + (dd : Int) = 8 from by omega) (EM.mv em (ajV11 0 51 rfl) (ajV11 0 52 rfl) (by rw [(funext (fun q => ajV11 27 q rfl) : V11 27 = V 27)] : V11 27 = V 27) ((keepS.tr (keepS.rf : keepS gs 0 gs) (keepS.n1 1))).2.1)) w2116 w2118 w106 w172 w2119 rfl rfl hdV_yX12_expression ⟨(by show 10 * dd + 13 + 1 ≤ 10 * dd + 15; omega), (by show 8 + (3 + 11) + (300 * dd + 420) ≤ 300 * dd + 500; omega)⟩ rfl hl.1 rfl (Nat.le_of_ble_eq_true rfl) dX12_partWithin_53 ⟨Nat.le_of_ble_eq_true rfl, Nat.le_of_ble_eq_true rfl⟩) hP hD hK hS hA (fun u29 H locs w30 hP hD hK hS => ?_)
        obtain ⟨V36, L37⟩ := u29
        obtain ⟨hMV36, ajV36, axL37, t31, t32, t33, t34, t35⟩ := w30
        have alL37 : agL [35, 36, 37, 38, 45, 46, 47] L L37 := agL.tr alL axL37 (by decide)
        have hP : va_P D vwCl (mw ad kk ks.1 V36 L37) H := hP
        have hD : va_D A (mw ad kk ks.1 V36 L37) := hD
        have hMV36 : rgd bM V36 := hMV36
        have ajV36 : agr [(0, 7), (0, 8), (0, 48), (0, 50)] [35, 36, 37, 38, 45, 46, 47] V11 V36 := ajV36
        have agV36 : agr [(0, 7), (0, 8), (0, 48), (0, 50)] [35, 36, 37, 38, 45, 46, 47] V V36 := agV11.tr ajV36 (by decide) (by decide)
        have t31 : Imp ((V36 0 8).toInt = 0) ((V36 0 48).toInt - (V11 0 48).toInt ≤ 2 * ((V36 0 7).toInt - (V11 0 7).toInt)) := t31
        have t32 : (V36 0 48).toInt ≤ 8051 - 6 * (V11 0 50).toInt := t32
        have t33 : (V36 0 50).toInt = (V11 0 50).toInt := t33
        have t34 : (V11 0 48).toInt ≤ (V36 0 48).toInt := t34
        have t35 : RdM (gT) ((nx gs 1)) (fun k => Iexpr ((gd + 1)) :: k) (fun k => k) (V36 0 8).toInt (fun s9 => RelM V36 L37 (bq) (gn) (gT) s9 (gl) ∧ keepS ((nx gs 1)) 1 s9) := t35
        have r38 : 0 ≤ ((V36 0 48)).toInt ∧ ((V36 0 48)).toInt ≤ 10000 := hMV36 0 48
        have r39 : 0 ≤ ((V36 0 8)).toInt ∧ ((V36 0 8)).toInt ≤ 70000 := hMV36 0 8
        have r40 : 0 ≤ ((V36 0 50)).toInt ∧ ((V36 0 50)).toInt ≤ 9 := hMV36 0 50
        rcases t35 with ⟨q41, sx42, h43, rl44, kp45⟩ | ⟨q41, h43⟩
        · skip
          have hr46 : ∀ k, Rc gT (Crun gs (Ipart gd :: k)) (Crun sx42 (Itake 41 :: k)) := fun k => (hr25 k).tr (h43 (Itake 41 :: k))
          have fz47 := RelM.rg rl44
          have ps48 := (kp45).1
          refine lv_aload_n hx hb dX12_partWithin_56 rfl (lv_at hl 0 rfl) ?_
          refine lv_bipush (v := 41) hx hb dX12_partWithin_57 (by decide) ?_
          have r49 : Int32.toInt 41 = 41 := by decide
          refine gA_void (gA_runV (As := [.int 41]) (rest := []) (ci := 12) (q0 := 0) hx hb hml hown hg hP hD hK hS hA hnw hgk (s_takeSignA l D ks H.size ad kk V36 L37 41 (bq) (gn) (gT) (sx42) (gl) hMV36 rl44 (sg_yes (j := 41) (by decide) (by decide) (by decide))) w2075 w2077 w96 w172 w2078 rfl rfl hdV_yX12_takeSign ⟨(by show 1 + 1 ≤ 10 * dd + 15; omega), (by show 8 + (2 + 11) + (21) ≤ 300 * dd + 500; omega)⟩ rfl hl.1 rfl (Nat.le_of_ble_eq_true rfl) dX12_partWithin_59 ⟨Nat.le_of_ble_eq_true rfl, Nat.le_of_ble_eq_true rfl⟩) hP hD hK hS hA (fun u51 H locs w52 hP hD hK hS => ?_)
          obtain ⟨V54, L55⟩ := u51
          obtain ⟨hMV54, ajV54, axL55, t53⟩ := w52
          have axL55 : L37 = L55 := Eq.symm axL55
          subst axL55
          have hP : va_P D vwCl (mw ad kk ks.1 V54 L37) H := hP
          have hD : va_D A (mw ad kk ks.1 V54 L37) := hD
          have hMV54 : rgd bM V54 := hMV54
          have ajV54 : agr [(0, 7), (0, 8)] [] V36 V54 := ajV54
          have agV54 : agr [(0, 7), (0, 8), (0, 48), (0, 50)] [35, 36, 37, 38, 45, 46, 47] V V54 := agV36.tr ajV54 (by decide) (by decide)
          have t53 : ((V54 0 8).toInt = 0 ∧ (gT).1 ((sx42).1 0) = (Int32.toInt 41) ∧ RelM V54 L37 (bq) (gn) (gT) (nx (sx42) 1) (gl)) ∨ (1 ≤ (V54 0 8).toInt ∧ (gT).1 ((sx42).1 0) ≠ (Int32.toInt 41) ∧ (V54 0 8).toInt = 1 + 16 * (gT).2.2 ((sx42).1 0)) := t53
          rcases t53 with ⟨q56, h57, rl58⟩ | ⟨q56, h57, rl58⟩
          · skip
            have kd59 : gT.1 (sx42.1 0) = 41 := h57.trans (by decide)
            have hr60 : ∀ k, Rc gT (Crun gs (Ipart gd :: k)) (Crun (nx sx42 1) (k)) := fun k => Rc.go1 (hr46 k) (tk_y kd59)
            have ps61 : (nx sx42 1).1 0 = sx42.1 0 + 1 := rfl
            have fz62 := RelM.rg rl58
            have r63 : 0 ≤ ((V54 0 8)).toInt ∧ ((V54 0 8)).toInt ≤ 70000 := hMV54 0 8
            refine lv_goto (tgt := 275) hx hb dX12_partWithin_62 (by decide) ?_
            have pq64 : (V54 0 48).toInt = ((V36 0 48)).toInt := congrArg Int32.toInt (ajV54 0 48 rfl)
            have pq65 : (V54 0 50).toInt = ((V36 0 50)).toInt := congrArg Int32.toInt (ajV54 0 50 rfl)
            exact W.vret hx hb hr (fun t ht hW => ⟨⟨(V54, L37), rfl, ⟨hMV54, agV54, alL37, (Imp.mk (fun hp => have hp : (V54 0 8).toInt = 0 := hp; (show (V54 0 48).toInt - (V 0 48).toInt + 1 ≤ 2 * ((V54 0 7).toInt - (V 0 7).toInt) from by first | omega | ((try (have i_t31 := Imp.go t31 (by omega))); omega)))), (show (V54 0 48).toInt ≤ 8054 - 6 * (V 0 50).toInt from by first | omega | ((try (have i_t31 := Imp.go t31 (by omega))); omega)), (show (V54 0 50).toInt = (V 0 50).toInt from by first | omega | ((try (have i_t31 := Imp.go t31 (by omega))); omega)), (show (V 0 48).toInt ≤ (V54 0 48).toInt from by first | omega | ((try (have i_t31 := Imp.go t31 (by omega))); omega)), (Or.inl ⟨W0 rl58, (nx sx42 1), hr60, rl58, keepS.le (keepS.tr (keepS.tr (keepS.tr (keepS.rf : keepS gs 0 gs) (keepS.n1 1)) kp45) (keepS.n1 1)) (by decide)⟩)⟩, by rw [ht]; exact hP, va_K.moved hW.alike hK, hD⟩, hS.F ht⟩) hS.2.2 dX12_partWithin_275
          · skip
            have kd66 : gT.1 (sx42.1 0) ≠ 41 := fun h9 => h57 (h9.trans (by decide))
            have hb67 : ∀ k, Rc gT (Crun gs (Ipart gd :: k)) (Cbad (V54 0 8).toInt) := fun k => Rc.go1 (hr46 k) ((tk_n kd66).trans (fl_eq rfl rl58))
            have r68 : 0 ≤ ((V54 0 8)).toInt ∧ ((V54 0 8)).toInt ≤ 70000 := hMV54 0 8
            refine lv_goto (tgt := 275) hx hb dX12_partWithin_62 (by decide) ?_
            have pq69 : (V54 0 48).toInt = ((V36 0 48)).toInt := congrArg Int32.toInt (ajV54 0 48 rfl)
            have pq70 : (V54 0 50).toInt = ((V36 0 50)).toInt := congrArg Int32.toInt (ajV54 0 50 rfl)
            exact W.vret hx hb hr (fun t ht hW => ⟨⟨(V54, L37), rfl, ⟨hMV54, agV54, alL37, (Imp.mk (fun hp => have hp : (V54 0 8).toInt = 0 := hp; (show (V54 0 48).toInt - (V 0 48).toInt + 1 ≤ 2 * ((V54 0 7).toInt - (V 0 7).toInt) from by first | omega | ((try (have i_t31 := Imp.go t31 (by omega))); omega)))), (show (V54 0 48).toInt ≤ 8054 - 6 * (V 0 50).toInt from by first | omega | ((try (have i_t31 := Imp.go t31 (by omega))); omega)), (show (V54 0 50).toInt = (V 0 50).toInt from by first | omega | ((try (have i_t31 := Imp.go t31 (by omega))); omega)), (show (V 0 48).toInt ≤ (V54 0 48).toInt from by first | omega | ((try (have i_t31 := Imp.go t31 (by omega))); omega)), (Or.inr ⟨(show 1 ≤ (V54 0 8).toInt from by omega), hb67⟩)⟩, by rw [ht]; exact hP, va_K.moved hW.alike hK, hD⟩, hS.F ht⟩) hS.2.2 dX12_partWithin_275
        · skip
          have hb71 : ∀ k, Rc gT (Crun gs (Ipart gd :: k)) (Cbad (V36 0 8).toInt) := fun k => (hr25 k).tr (h43 (Itake 41 :: k))
          refine lv_aload_n hx hb dX12_partWithin_56 rfl (lv_at hl 0 rfl) ?_
          refine lv_bipush (v := 41) hx hb dX12_partWithin_57 (by decide) ?_
          have r72 : Int32.toInt 41 = 41 := by decide
          refine gA_void (gA_runV (As := [.int 41]) (rest := []) (ci := 12) (q0 := 0) hx hb hml hown hg hP hD hK hS hA hnw hgk (s_takeSignB l D ks H.size ad kk V36 L37 41 hMV36 (show 1 ≤ (V36 0 8).toInt from by first | omega | ((try (have i_t31 := Imp.go t31 (by omega))); omega))) w2075 w2077 w96 w172 w2078 rfl rfl hdV_yX12_takeSign ⟨(by show 1 + 1 ≤ 10 * dd + 15; omega), (by show 8 + (2 + 11) + (21) ≤ 300 * dd + 500; omega)⟩ rfl hl.1 rfl (Nat.le_of_ble_eq_true rfl) dX12_partWithin_59 ⟨Nat.le_of_ble_eq_true rfl, Nat.le_of_ble_eq_true rfl⟩) hP hD hK hS hA (fun u74 H locs w75 hP hD hK hS => ?_)
          obtain ⟨V77, L78⟩ := u74
          obtain ⟨hMV77, ajV77, axL78, t76⟩ := w75
          have axL78 : L37 = L78 := Eq.symm axL78
          subst axL78
          have hP : va_P D vwCl (mw ad kk ks.1 V77 L37) H := hP
          have hD : va_D A (mw ad kk ks.1 V77 L37) := hD
          have hMV77 : rgd bM V77 := hMV77
          have ajV77 : agr [(0, 7), (0, 8)] [] V36 V77 := ajV77
          have agV77 : agr [(0, 7), (0, 8), (0, 48), (0, 50)] [35, 36, 37, 38, 45, 46, 47] V V77 := agV36.tr ajV77 (by decide) (by decide)
          have t76 : (V77 0 8).toInt = (V36 0 8).toInt := t76
          have r79 : 0 ≤ ((V77 0 8)).toInt ∧ ((V77 0 8)).toInt ≤ 70000 := hMV77 0 8
          refine lv_goto (tgt := 275) hx hb dX12_partWithin_62 (by decide) ?_
          have pq80 : (V77 0 48).toInt = ((V36 0 48)).toInt := congrArg Int32.toInt (ajV77 0 48 rfl)
          have pq81 : (V77 0 50).toInt = ((V36 0 50)).toInt := congrArg Int32.toInt (ajV77 0 50 rfl)
          exact W.vret hx hb hr (fun t ht hW => ⟨⟨(V77, L37), rfl, ⟨hMV77, agV77, alL37, (Imp.mk (fun hp => have hp : (V77 0 8).toInt = 0 := hp; (show (V77 0 48).toInt - (V 0 48).toInt + 1 ≤ 2 * ((V77 0 7).toInt - (V 0 7).toInt) from by first | omega | ((try (have i_t31 := Imp.go t31 (by omega))); omega)))), (show (V77 0 48).toInt ≤ 8054 - 6 * (V 0 50).toInt from by first | omega | ((try (have i_t31 := Imp.go t31 (by omega))); omega)), (show (V77 0 50).toInt = (V 0 50).toInt from by first | omega | ((try (have i_t31 := Imp.go t31 (by omega))); omega)), (show (V 0 48).toInt ≤ (V77 0 48).toInt from by first | omega | ((try (have i_t31 := Imp.go t31 (by omega))); omega)), (Or.inr ⟨(show 1 ≤ (V77 0 8).toInt from by omega), (fun k => by rw [show (V77 0 8).toInt = (V36 0 8).toInt from by omega]; exact hb71 k)⟩)⟩, by rw [ht]; exact hP, va_K.moved hW.alike hK, hD⟩, hS.F ht⟩) hS.2.2 dX12_partWithin_275
    · skip
      have kd82 : gT.1 (gs.1 0) ≠ 40 := fun h9 => h14 (h9.trans (by decide))
      have fz83 := RelM.rg rl15
      have pq84 : (V11 0 8).toInt = ((V 0 8)).toInt := congrArg Int32.toInt (ajV11 0 8 rfl)
      have r85 : 0 ≤ ((V 0 8)).toInt ∧ ((V 0 8)).toInt ≤ 70000 := hMV 0 8
      refine lv_if_eq (tgt := 65) hx hb dX12_partWithin_49 (by decide) (fun c86 => ?_) (fun c86 => ?_)
      · skip
        have f87 : z7.toInt = 0 := b_eq rfl (by decide) c86
        refine lv_aload_n hx hb dX12_partWithin_65 rfl (lv_at hl 0 rfl) ?_
        refine lv_bipush (v := 45) hx hb dX12_partWithin_66 (by decide) ?_
        have r88 : Int32.toInt 45 = 45 := by decide
        refine gA_int (gA_runV (As := [.int 45]) (rest := []) (ci := 12) (q0 := 0) hx hb hml hown hg hP hD hK hS hA hnw hgk (s_hasSignA l D ks H.size ad kk V11 L 45 (bq) (gn) (gT) (gs) (gl) hMV11 rl15 (sg_yes (j := 45) (by decide) (by decide) (by decide))) w2067 w2069 w94 w172 w2070 rfl rfl hdV_yX12_hasSign ⟨(by show 1 + 1 ≤ 10 * dd + 15; omega), (by show 8 + (3 + 11) + (21) ≤ 300 * dd + 500; omega)⟩ rfl hl.1 rfl (Nat.le_of_ble_eq_true rfl) dX12_partWithin_68 ⟨Nat.le_of_ble_eq_true rfl, Nat.le_of_ble_eq_true rfl⟩) hP hD hK hS hA (fun z89 u90 H locs w91 hP hD hK hS => ?_)
        obtain ⟨V93, L94⟩ := u90
        obtain ⟨hMV93, ajV93, axL94, rgz89, t92⟩ := w91
        have axL94 : L = L94 := Eq.symm axL94
        subst axL94
        have hP : va_P D vwCl (mw ad kk ks.1 V93 L) H := hP
        have hD : va_D A (mw ad kk ks.1 V93 L) := hD
        have hMV93 : rgd bM V93 := hMV93
        have ajV93 : agr [(0, 7)] [] V11 V93 := ajV93
        have agV93 : agr [(0, 7), (0, 8), (0, 48), (0, 50)] [35, 36, 37, 38, 45, 46, 47] V V93 := agV11.tr ajV93 (by decide) (by decide)
        have rgz89 : 0 ≤ z89.toInt ∧ z89.toInt ≤ 1 := rgz89
        have t92 : (z89.toInt = 1 ∧ (gT).1 ((gs).1 0) = (Int32.toInt 45) ∧ RelM V93 L (bq) (gn) (gT) (nx (gs) 1) (gl)) ∨ (z89.toInt = 0 ∧ (gT).1 ((gs).1 0) ≠ (Int32.toInt 45) ∧ RelM V93 L (bq) (gn) (gT) (gs) (gl)) := t92
        rcases t92 with ⟨q95, h96, rl97⟩ | ⟨q95, h96, rl97⟩
        · skip
          have kd98 : gT.1 (gs.1 0) = 45 := h96.trans (by decide)
          have ps99 : (nx gs 1).1 0 = gs.1 0 + 1 := rfl
          have fz100 := RelM.rg rl97
          have pq101 : (V93 0 8).toInt = ((V 0 8)).toInt := congrArg Int32.toInt ((ajV93 0 8 rfl).trans (ajV11 0 8 rfl))
          refine lv_if_eq (tgt := 89) hx hb dX12_partWithin_71 (by decide) (fun c102 => ?_) (fun c102 => ?_)
          · skip
            have f103 : z89.toInt = 0 := b_eq rfl (by decide) c102
            exfalso; omega
          · skip
            have f104 : z89.toInt ≠ 0 := b_neq rfl (by decide) c102
            have hr105 : ∀ k, Rc gT (Crun gs (Ipart gd :: k)) (Crun gs (Ipart gd :: k)) := fun k => Rc.rf
            have hr106 : ∀ k, Rc gT (Crun gs (Ipart gd :: k)) (Crun (nx gs 1) (Ipart (gd + 1) :: k)) := fun k => Rc.go1 (hr105 k) (pw_45 gd bg (by omega) kd98)
            refine lv_aload_n hx hb dX12_partWithin_74 rfl (lv_at hl 0 rfl) ?_
            have pq107 : (V93 0 48).toInt = ((V 0 48)).toInt := congrArg Int32.toInt ((ajV93 0 48 rfl).trans (ajV11 0 48 rfl))
            have pq108 : (V93 0 50).toInt = ((V 0 50)).toInt := congrArg Int32.toInt ((ajV93 0 50 rfl).trans (ajV11 0 50 rfl))
            refine gA_void (gA_runV (As := []) (rest := []) (ci := 12) (q0 := 0) hx hb hml hown hg hP hD hK hS hA hnw hgk (hk_s_partA H.size ad kk V93 L (bq) (gn) (gT) ((nx gs 1)) (gl) ((gd + 1)) hMV93 rl97 (show (V93 0 48).toInt ≤ 2 * (V93 0 7).toInt from by omega) (show (V93 0 50).toInt = (((gd + 1)) : Int) from by omega) (show (V93 0 50).toInt + (dd : Int) = 8 from by omega) (EM.mv em ((ajV93 0 51 rfl).trans (ajV11 0 51 rfl)) ((ajV93 0 52 rfl).trans (ajV11 0 52 rfl)) (by rw [(funext (fun q => ajV93 27 q rfl) : V93 27 = V11 27), (funext (fun q => ajV11 27 q rfl) : V11 27 = V 27)] : V93 27 = V 27) ((keepS.tr (keepS.rf : keepS gs 0 gs) (keepS.n1 1))).2.1)) w2128 w2130 w109 w172 w2131 rfl rfl hdV_yX12_part ⟨(by show 10 * dd + 10 + 1 ≤ 10 * dd + 15; omega), (by show 8 + (2 + 11) + (300 * dd + 300) ≤ 300 * dd + 500; omega)⟩ rfl hl.1 rfl (Nat.le_of_ble_eq_true rfl) dX12_partWithin_75 ⟨Nat.le_of_ble_eq_true rfl, Nat.le_of_ble_eq_true rfl⟩) hP hD hK hS hA (fun u110 H locs w111 hP hD hK hS => ?_)
            obtain ⟨V117, L118⟩ := u110
            obtain ⟨hMV117, ajV117, axL118, t112, t113, t114, t115, t116⟩ := w111
            have alL118 : agL [35, 36, 37, 38, 45, 46, 47] L L118 := agL.tr alL axL118 (by decide)
            have hP : va_P D vwCl (mw ad kk ks.1 V117 L118) H := hP
            have hD : va_D A (mw ad kk ks.1 V117 L118) := hD
            have hMV117 : rgd bM V117 := hMV117
            have ajV117 : agr [(0, 7), (0, 8), (0, 48), (0, 50)] [35, 36, 37, 38, 45, 46, 47] V93 V117 := ajV117
            have agV117 : agr [(0, 7), (0, 8), (0, 48), (0, 50)] [35, 36, 37, 38, 45, 46, 47] V V117 := agV93.tr ajV117 (by decide) (by decide)
            have t112 : Imp ((V117 0 8).toInt = 0) ((V117 0 48).toInt - (V93 0 48).toInt ≤ 2 * ((V117 0 7).toInt - (V93 0 7).toInt)) := t112
            have t113 : (V117 0 48).toInt ≤ 8048 - 6 * (V93 0 50).toInt := t113
            have t114 : (V117 0 50).toInt = (V93 0 50).toInt := t114
            have t115 : (V93 0 48).toInt ≤ (V117 0 48).toInt := t115
            have t116 : RdM (gT) ((nx gs 1)) (fun k => Ipart ((gd + 1)) :: k) (fun k => k) (V117 0 8).toInt (fun s9 => RelM V117 L118 (bq) (gn) (gT) s9 (gl) ∧ keepS ((nx gs 1)) 1 s9) := t116
            have r119 : 0 ≤ ((V117 0 48)).toInt ∧ ((V117 0 48)).toInt ≤ 10000 := hMV117 0 48
            have r120 : 0 ≤ ((V117 0 8)).toInt ∧ ((V117 0 8)).toInt ≤ 70000 := hMV117 0 8
            have r121 : 0 ≤ ((V117 0 50)).toInt ∧ ((V117 0 50)).toInt ≤ 9 := hMV117 0 50
            rcases t116 with ⟨q122, sx123, h124, rl125, kp126⟩ | ⟨q122, h124⟩
            · skip
              have hr127 : ∀ k, Rc gT (Crun gs (Ipart gd :: k)) (Crun sx123 (k)) := fun k => (hr106 k).tr (h124 (k))
              have fz128 := RelM.rg rl125
              have ps129 := (kp126).1
              refine lv_aload_n hx hb dX12_partWithin_78 rfl (lv_at hl 0 rfl) ?_
              refine lv_iconst (v := 4) hx hb dX12_partWithin_79 (by decide) ?_
              refine lv_iconst (v := 0) hx hb dX12_partWithin_80 (by decide) ?_
              refine lv_iconst (v := 0) hx hb dX12_partWithin_81 (by decide) ?_
              have r130 : Int32.toInt 4 = 4 := by decide
              have r131 : Int32.toInt 0 = 0 := by decide
              refine gA_int (gA_runV (As := [.int 4, .int 0, .int 0]) (rest := []) (ci := 12) (q0 := 0) hx hb hml hown hg hP hD hK hS hA hnw hgk (s_emit3 l D ks H.size ad kk V117 L118 4 0 0 hMV117 (show (V117 0 48).toInt ≤ 9999 from by first | omega | ((try (have i_t112 := Imp.go t112 (by omega))); omega))) w2136 w2138 w111 w172 w2139 rfl rfl hdV_yX12_emit ⟨(by show 0 + 1 ≤ 10 * dd + 15; omega), (by show 8 + (4 + 11) + (0) ≤ 300 * dd + 500; omega)⟩ rfl hl.1 rfl (Nat.le_of_ble_eq_true rfl) dX12_partWithin_82 ⟨Nat.le_of_ble_eq_true rfl, Nat.le_of_ble_eq_true rfl⟩) hP hD hK hS hA (fun z132 u133 H locs w134 hP hD hK hS => ?_)
              obtain ⟨V138, L139⟩ := u133
              obtain ⟨hMV138, ajV138, axL139, rgz132, t135, t136, t137⟩ := w134
              have axL139 : L118 = L139 := Eq.symm axL139
              subst axL139
              have hP : va_P D vwCl (mw ad kk ks.1 V138 L118) H := hP
              have hD : va_D A (mw ad kk ks.1 V138 L118) := hD
              have hMV138 : rgd bM V138 := hMV138
              have ajV138 : agr [(0, 48)] [45, 46, 47] V117 V138 := ajV138
              have agV138 : agr [(0, 7), (0, 8), (0, 48), (0, 50)] [35, 36, 37, 38, 45, 46, 47] V V138 := agV117.tr ajV138 (by decide) (by decide)
              have rgz132 : 0 ≤ z132.toInt ∧ z132.toInt ≤ 20000 := rgz132
              have t135 : (V138 0 48).toInt = (V117 0 48).toInt + 1 := t135
              have t136 : z132.toInt = (V117 0 49).toInt + (V117 0 48).toInt := t136
              have t137 : emitted V117 V138 (pA V117) 4 0 0 := t137
              have r140 : 0 ≤ ((V138 0 48)).toInt ∧ ((V138 0 48)).toInt ≤ 10000 := hMV138 0 48
              have pq141 : (V117 0 49).toInt = ((V 0 49)).toInt := congrArg Int32.toInt ((ajV117 0 49 rfl).trans ((ajV93 0 49 rfl).trans (ajV11 0 49 rfl)))
              have r142 : 0 ≤ ((V 0 49)).toInt ∧ ((V 0 49)).toInt ≤ 10000 := hMV 0 49
              refine lv_istore_n (lv' := [(1, .int z132), (0, .ref (ad 0))]) hx hb dX12_partWithin_85 rfl hl (by decide) rfl (fun ls hl => ?_)
              refine lv_goto (tgt := 275) hx hb dX12_partWithin_86 (by decide) ?_
              have pq143 : (V138 0 7).toInt = ((V117 0 7)).toInt := congrArg Int32.toInt (ajV138 0 7 rfl)
              have pq144 : (V138 0 8).toInt = ((V117 0 8)).toInt := congrArg Int32.toInt (ajV138 0 8 rfl)
              have pq145 : (V138 0 50).toInt = ((V117 0 50)).toInt := congrArg Int32.toInt (ajV138 0 50 rfl)
              have rl146 : RelM V138 L118 bq gn gT sx123 gl := RelM.ag rl125 (show agr [(0, 48)] [45, 46, 47] V117 V138 from (agr.tr agr.rf ajV138 (by decide) (by decide))) (by decide) (show agL [] L118 L118 from agL.rf) (by decide)
              exact W.vret hx hb hr (fun t ht hW => ⟨⟨(V138, L118), rfl, ⟨hMV138, agV138, alL118, (Imp.mk (fun hp => have hp : (V138 0 8).toInt = 0 := hp; (show (V138 0 48).toInt - (V 0 48).toInt + 1 ≤ 2 * ((V138 0 7).toInt - (V 0 7).toInt) from by first | omega | ((try (have i_t112 := Imp.go t112 (by omega))); omega)))), (show (V138 0 48).toInt ≤ 8054 - 6 * (V 0 50).toInt from by first | omega | ((try (have i_t112 := Imp.go t112 (by omega))); omega)), (show (V138 0 50).toInt = (V 0 50).toInt from by first | omega | ((try (have i_t112 := Imp.go t112 (by omega))); omega)), (show (V 0 48).toInt ≤ (V138 0 48).toInt from by first | omega | ((try (have i_t112 := Imp.go t112 (by omega))); omega)), (Or.inl ⟨W0 rl146, sx123, hr127, rl146, keepS.le (keepS.tr (keepS.tr (keepS.rf : keepS gs 0 gs) (keepS.n1 1)) kp126) (by decide)⟩)⟩, by rw [ht]; exact hP, va_K.moved hW.alike hK, hD⟩, hS.F ht⟩) hS.2.2 dX12_partWithin_275
            · skip
              have hb147 : ∀ k, Rc gT (Crun gs (Ipart gd :: k)) (Cbad (V117 0 8).toInt) := fun k => (hr106 k).tr (h124 (k))
              refine lv_aload_n hx hb dX12_partWithin_78 rfl (lv_at hl 0 rfl) ?_
              refine lv_iconst (v := 4) hx hb dX12_partWithin_79 (by decide) ?_
              refine lv_iconst (v := 0) hx hb dX12_partWithin_80 (by decide) ?_
              refine lv_iconst (v := 0) hx hb dX12_partWithin_81 (by decide) ?_
              have r148 : Int32.toInt 4 = 4 := by decide
              have r149 : Int32.toInt 0 = 0 := by decide
              refine gA_int (gA_runV (As := [.int 4, .int 0, .int 0]) (rest := []) (ci := 12) (q0 := 0) hx hb hml hown hg hP hD hK hS hA hnw hgk (s_emit3 l D ks H.size ad kk V117 L118 4 0 0 hMV117 (show (V117 0 48).toInt ≤ 9999 from by first | omega | ((try (have i_t112 := Imp.go t112 (by omega))); omega))) w2136 w2138 w111 w172 w2139 rfl rfl hdV_yX12_emit ⟨(by show 0 + 1 ≤ 10 * dd + 15; omega), (by show 8 + (4 + 11) + (0) ≤ 300 * dd + 500; omega)⟩ rfl hl.1 rfl (Nat.le_of_ble_eq_true rfl) dX12_partWithin_82 ⟨Nat.le_of_ble_eq_true rfl, Nat.le_of_ble_eq_true rfl⟩) hP hD hK hS hA (fun z150 u151 H locs w152 hP hD hK hS => ?_)
              obtain ⟨V156, L157⟩ := u151
              obtain ⟨hMV156, ajV156, axL157, rgz150, t153, t154, t155⟩ := w152
              have axL157 : L118 = L157 := Eq.symm axL157
              subst axL157
              have hP : va_P D vwCl (mw ad kk ks.1 V156 L118) H := hP
              have hD : va_D A (mw ad kk ks.1 V156 L118) := hD
              have hMV156 : rgd bM V156 := hMV156
              have ajV156 : agr [(0, 48)] [45, 46, 47] V117 V156 := ajV156
              have agV156 : agr [(0, 7), (0, 8), (0, 48), (0, 50)] [35, 36, 37, 38, 45, 46, 47] V V156 := agV117.tr ajV156 (by decide) (by decide)
              have rgz150 : 0 ≤ z150.toInt ∧ z150.toInt ≤ 20000 := rgz150
              have t153 : (V156 0 48).toInt = (V117 0 48).toInt + 1 := t153
              have t154 : z150.toInt = (V117 0 49).toInt + (V117 0 48).toInt := t154
              have t155 : emitted V117 V156 (pA V117) 4 0 0 := t155
              have r158 : 0 ≤ ((V156 0 48)).toInt ∧ ((V156 0 48)).toInt ≤ 10000 := hMV156 0 48
              have pq159 : (V117 0 49).toInt = ((V 0 49)).toInt := congrArg Int32.toInt ((ajV117 0 49 rfl).trans ((ajV93 0 49 rfl).trans (ajV11 0 49 rfl)))
              have r160 : 0 ≤ ((V 0 49)).toInt ∧ ((V 0 49)).toInt ≤ 10000 := hMV 0 49
              refine lv_istore_n (lv' := [(1, .int z150), (0, .ref (ad 0))]) hx hb dX12_partWithin_85 rfl hl (by decide) rfl (fun ls hl => ?_)
              refine lv_goto (tgt := 275) hx hb dX12_partWithin_86 (by decide) ?_
              have pq161 : (V156 0 7).toInt = ((V117 0 7)).toInt := congrArg Int32.toInt (ajV156 0 7 rfl)
              have pq162 : (V156 0 8).toInt = ((V117 0 8)).toInt := congrArg Int32.toInt (ajV156 0 8 rfl)
              have pq163 : (V156 0 50).toInt = ((V117 0 50)).toInt := congrArg Int32.toInt (ajV156 0 50 rfl)
              exact W.vret hx hb hr (fun t ht hW => ⟨⟨(V156, L118), rfl, ⟨hMV156, agV156, alL118, (Imp.mk (fun hp => have hp : (V156 0 8).toInt = 0 := hp; (show (V156 0 48).toInt - (V 0 48).toInt + 1 ≤ 2 * ((V156 0 7).toInt - (V 0 7).toInt) from by first | omega | ((try (have i_t112 := Imp.go t112 (by omega))); omega)))), (show (V156 0 48).toInt ≤ 8054 - 6 * (V 0 50).toInt from by first | omega | ((try (have i_t112 := Imp.go t112 (by omega))); omega)), (show (V156 0 50).toInt = (V 0 50).toInt from by first | omega | ((try (have i_t112 := Imp.go t112 (by omega))); omega)), (show (V 0 48).toInt ≤ (V156 0 48).toInt from by first | omega | ((try (have i_t112 := Imp.go t112 (by omega))); omega)), (Or.inr ⟨(show 1 ≤ (V156 0 8).toInt from by omega), (fun k => by rw [show (V156 0 8).toInt = (V117 0 8).toInt from by omega]; exact hb147 k)⟩)⟩, by rw [ht]; exact hP, va_K.moved hW.alike hK, hD⟩, hS.F ht⟩) hS.2.2 dX12_partWithin_275
        · skip
          have kd164 : gT.1 (gs.1 0) ≠ 45 := fun h9 => h96 (h9.trans (by decide))
          have fz165 := RelM.rg rl97
          have pq166 : (V93 0 8).toInt = ((V 0 8)).toInt := congrArg Int32.toInt ((ajV93 0 8 rfl).trans (ajV11 0 8 rfl))
          refine lv_if_eq (tgt := 89) hx hb dX12_partWithin_71 (by decide) (fun c167 => ?_) (fun c167 => ?_)
          · skip
            have f168 : z89.toInt = 0 := b_eq rfl (by decide) c167
            refine lv_aload_n hx hb dX12_partWithin_89 rfl (lv_at hl 0 rfl) ?_
            refine lv_bipush (v := 15) hx hb dX12_partWithin_90 (by decide) ?_
            have r169 : Int32.toInt 15 = 15 := by decide
            refine gA_int (gA_runV (As := [.int 15]) (rest := []) (ci := 12) (q0 := 0) hx hb hml hown hg hP hD hK hS hA hnw hgk (s_hasWordA l D ks H.size ad kk V93 L 15 (bq) (gn) (gT) (gs) (gl) hMV93 (by decide) rl97) w2051 w2053 w90 w172 w2054 rfl rfl hdV_yX12_hasWord ⟨(by show 1 + 1 ≤ 10 * dd + 15; omega), (by show 8 + (3 + 11) + (21) ≤ 300 * dd + 500; omega)⟩ rfl hl.1 rfl (Nat.le_of_ble_eq_true rfl) dX12_partWithin_92 ⟨Nat.le_of_ble_eq_true rfl, Nat.le_of_ble_eq_true rfl⟩) hP hD hK hS hA (fun z170 u171 H locs w172 hP hD hK hS => ?_)
            obtain ⟨V174, L175⟩ := u171
            obtain ⟨hMV174, ajV174, axL175, rgz170, t173⟩ := w172
            have axL175 : L = L175 := Eq.symm axL175
            subst axL175
            have hP : va_P D vwCl (mw ad kk ks.1 V174 L) H := hP
            have hD : va_D A (mw ad kk ks.1 V174 L) := hD
            have hMV174 : rgd bM V174 := hMV174
            have ajV174 : agr [(0, 7)] [] V93 V174 := ajV174
            have agV174 : agr [(0, 7), (0, 8), (0, 48), (0, 50)] [35, 36, 37, 38, 45, 46, 47] V V174 := agV93.tr ajV174 (by decide) (by decide)
            have rgz170 : 0 ≤ z170.toInt ∧ z170.toInt ≤ 1 := rgz170
            have t173 : (z170.toInt = 1 ∧ (gT).1 ((gs).1 0) = 128 + (Int32.toInt 15) ∧ RelM V174 L (bq) (gn) (gT) (nx (gs) 1) (gl)) ∨ (z170.toInt = 0 ∧ (gT).1 ((gs).1 0) ≠ 128 + (Int32.toInt 15) ∧ RelM V174 L (bq) (gn) (gT) (gs) (gl)) := t173
            rcases t173 with ⟨q176, h177, rl178⟩ | ⟨q176, h177, rl178⟩
            · skip
              have kd179 : gT.1 (gs.1 0) = 143 := h177.trans (by decide)
              have ps180 : (nx gs 1).1 0 = gs.1 0 + 1 := rfl
              have fz181 := RelM.rg rl178
              have pq182 : (V174 0 8).toInt = ((V 0 8)).toInt := congrArg Int32.toInt ((ajV174 0 8 rfl).trans ((ajV93 0 8 rfl).trans (ajV11 0 8 rfl)))
              refine lv_if_eq (tgt := 109) hx hb dX12_partWithin_95 (by decide) (fun c183 => ?_) (fun c183 => ?_)
              · skip
                have f184 : z170.toInt = 0 := b_eq rfl (by decide) c183
                exfalso; omega
              · skip
                have f185 : z170.toInt ≠ 0 := b_neq rfl (by decide) c183
                have hr186 : ∀ k, Rc gT (Crun gs (Ipart gd :: k)) (Crun gs (Ipart gd :: k)) := fun k => Rc.rf
                have hr187 : ∀ k, Rc gT (Crun gs (Ipart gd :: k)) (Crun (nx gs 1) (k)) := fun k => Rc.go1 (hr186 k) (pw_143 gd bg (by omega) kd179)
                refine lv_aload_n hx hb dX12_partWithin_98 rfl (lv_at hl 0 rfl) ?_
                refine lv_iconst (v := 3) hx hb dX12_partWithin_99 (by decide) ?_
                refine lv_iconst (v := 0) hx hb dX12_partWithin_100 (by decide) ?_
                refine lv_iconst (v := 0) hx hb dX12_partWithin_101 (by decide) ?_
                have r188 : Int32.toInt 3 = 3 := by decide
                have r189 : Int32.toInt 0 = 0 := by decide
                have pq190 : (V174 0 48).toInt = ((V 0 48)).toInt := congrArg Int32.toInt ((ajV174 0 48 rfl).trans ((ajV93 0 48 rfl).trans (ajV11 0 48 rfl)))
                refine gA_int (gA_runV (As := [.int 3, .int 0, .int 0]) (rest := []) (ci := 12) (q0 := 0) hx hb hml hown hg hP hD hK hS hA hnw hgk (s_emit3 l D ks H.size ad kk V174 L 3 0 0 hMV174 (show (V174 0 48).toInt ≤ 9999 from by omega)) w2136 w2138 w111 w172 w2139 rfl rfl hdV_yX12_emit ⟨(by show 0 + 1 ≤ 10 * dd + 15; omega), (by show 8 + (4 + 11) + (0) ≤ 300 * dd + 500; omega)⟩ rfl hl.1 rfl (Nat.le_of_ble_eq_true rfl) dX12_partWithin_102 ⟨Nat.le_of_ble_eq_true rfl, Nat.le_of_ble_eq_true rfl⟩) hP hD hK hS hA (fun z191 u192 H locs w193 hP hD hK hS => ?_)
                obtain ⟨V197, L198⟩ := u192
                obtain ⟨hMV197, ajV197, axL198, rgz191, t194, t195, t196⟩ := w193
                have axL198 : L = L198 := Eq.symm axL198
                subst axL198
                have hP : va_P D vwCl (mw ad kk ks.1 V197 L) H := hP
                have hD : va_D A (mw ad kk ks.1 V197 L) := hD
                have hMV197 : rgd bM V197 := hMV197
                have ajV197 : agr [(0, 48)] [45, 46, 47] V174 V197 := ajV197
                have agV197 : agr [(0, 7), (0, 8), (0, 48), (0, 50)] [35, 36, 37, 38, 45, 46, 47] V V197 := agV174.tr ajV197 (by decide) (by decide)
                have rgz191 : 0 ≤ z191.toInt ∧ z191.toInt ≤ 20000 := rgz191
                have t194 : (V197 0 48).toInt = (V174 0 48).toInt + 1 := t194
                have t195 : z191.toInt = (V174 0 49).toInt + (V174 0 48).toInt := t195
                have t196 : emitted V174 V197 (pA V174) 3 0 0 := t196
                have r199 : 0 ≤ ((V197 0 48)).toInt ∧ ((V197 0 48)).toInt ≤ 10000 := hMV197 0 48
                have pq200 : (V174 0 49).toInt = ((V 0 49)).toInt := congrArg Int32.toInt ((ajV174 0 49 rfl).trans ((ajV93 0 49 rfl).trans (ajV11 0 49 rfl)))
                have r201 : 0 ≤ ((V 0 49)).toInt ∧ ((V 0 49)).toInt ≤ 10000 := hMV 0 49
                refine lv_istore_n (lv' := [(1, .int z191), (0, .ref (ad 0))]) hx hb dX12_partWithin_105 rfl hl (by decide) rfl (fun ls hl => ?_)
                refine lv_goto (tgt := 275) hx hb dX12_partWithin_106 (by decide) ?_
                have pq202 : (V197 0 7).toInt = ((V174 0 7)).toInt := congrArg Int32.toInt (ajV197 0 7 rfl)
                have pq203 : (V197 0 8).toInt = ((V 0 8)).toInt := congrArg Int32.toInt ((ajV197 0 8 rfl).trans ((ajV174 0 8 rfl).trans ((ajV93 0 8 rfl).trans (ajV11 0 8 rfl))))
                have pq204 : (V197 0 50).toInt = ((V 0 50)).toInt := congrArg Int32.toInt ((ajV197 0 50 rfl).trans ((ajV174 0 50 rfl).trans ((ajV93 0 50 rfl).trans (ajV11 0 50 rfl))))
                have rl205 : RelM V197 L bq gn gT (nx gs 1) gl := RelM.ag rl178 (show agr [(0, 48)] [45, 46, 47] V174 V197 from (agr.tr agr.rf ajV197 (by decide) (by decide))) (by decide) (show agL [] L L from agL.rf) (by decide)
                exact W.vret hx hb hr (fun t ht hW => ⟨⟨(V197, L), rfl, ⟨hMV197, agV197, alL, (Imp.mk (fun hp => have hp : (V197 0 8).toInt = 0 := hp; (show (V197 0 48).toInt - (V 0 48).toInt + 1 ≤ 2 * ((V197 0 7).toInt - (V 0 7).toInt) from by omega))), (show (V197 0 48).toInt ≤ 8054 - 6 * (V 0 50).toInt from by omega), (show (V197 0 50).toInt = (V 0 50).toInt from by omega), (show (V 0 48).toInt ≤ (V197 0 48).toInt from by omega), (Or.inl ⟨W0 rl205, (nx gs 1), hr187, rl205, keepS.le (keepS.tr (keepS.rf : keepS gs 0 gs) (keepS.n1 1)) (by decide)⟩)⟩, by rw [ht]; exact hP, va_K.moved hW.alike hK, hD⟩, hS.F ht⟩) hS.2.2 dX12_partWithin_275
            · skip
              have kd206 : gT.1 (gs.1 0) ≠ 143 := fun h9 => h177 (h9.trans (by decide))
              have fz207 := RelM.rg rl178
              have pq208 : (V174 0 8).toInt = ((V 0 8)).toInt := congrArg Int32.toInt ((ajV174 0 8 rfl).trans ((ajV93 0 8 rfl).trans (ajV11 0 8 rfl)))
              refine lv_if_eq (tgt := 109) hx hb dX12_partWithin_95 (by decide) (fun c209 => ?_) (fun c209 => ?_)
              · skip
                have f210 : z170.toInt = 0 := b_eq rfl (by decide) c209
                refine lv_aload_n hx hb dX12_partWithin_109 rfl (lv_at hl 0 rfl) ?_
                refine lv_bipush (v := 16) hx hb dX12_partWithin_110 (by decide) ?_
                have r211 : Int32.toInt 16 = 16 := by decide
                refine gA_int (gA_runV (As := [.int 16]) (rest := []) (ci := 12) (q0 := 0) hx hb hml hown hg hP hD hK hS hA hnw hgk (s_hasWordA l D ks H.size ad kk V174 L 16 (bq) (gn) (gT) (gs) (gl) hMV174 (by decide) rl178) w2051 w2053 w90 w172 w2054 rfl rfl hdV_yX12_hasWord ⟨(by show 1 + 1 ≤ 10 * dd + 15; omega), (by show 8 + (3 + 11) + (21) ≤ 300 * dd + 500; omega)⟩ rfl hl.1 rfl (Nat.le_of_ble_eq_true rfl) dX12_partWithin_112 ⟨Nat.le_of_ble_eq_true rfl, Nat.le_of_ble_eq_true rfl⟩) hP hD hK hS hA (fun z212 u213 H locs w214 hP hD hK hS => ?_)
                obtain ⟨V216, L217⟩ := u213
                obtain ⟨hMV216, ajV216, axL217, rgz212, t215⟩ := w214
                have axL217 : L = L217 := Eq.symm axL217
                subst axL217
                have hP : va_P D vwCl (mw ad kk ks.1 V216 L) H := hP
                have hD : va_D A (mw ad kk ks.1 V216 L) := hD
                have hMV216 : rgd bM V216 := hMV216
                have ajV216 : agr [(0, 7)] [] V174 V216 := ajV216
                have agV216 : agr [(0, 7), (0, 8), (0, 48), (0, 50)] [35, 36, 37, 38, 45, 46, 47] V V216 := agV174.tr ajV216 (by decide) (by decide)
                have rgz212 : 0 ≤ z212.toInt ∧ z212.toInt ≤ 1 := rgz212
                have t215 : (z212.toInt = 1 ∧ (gT).1 ((gs).1 0) = 128 + (Int32.toInt 16) ∧ RelM V216 L (bq) (gn) (gT) (nx (gs) 1) (gl)) ∨ (z212.toInt = 0 ∧ (gT).1 ((gs).1 0) ≠ 128 + (Int32.toInt 16) ∧ RelM V216 L (bq) (gn) (gT) (gs) (gl)) := t215
                rcases t215 with ⟨q218, h219, rl220⟩ | ⟨q218, h219, rl220⟩
                · skip
                  have kd221 : gT.1 (gs.1 0) = 144 := h219.trans (by decide)
                  have ps222 : (nx gs 1).1 0 = gs.1 0 + 1 := rfl
                  have fz223 := RelM.rg rl220
                  have pq224 : (V216 0 8).toInt = ((V 0 8)).toInt := congrArg Int32.toInt ((ajV216 0 8 rfl).trans ((ajV174 0 8 rfl).trans ((ajV93 0 8 rfl).trans (ajV11 0 8 rfl))))
                  refine lv_if_eq (tgt := 136) hx hb dX12_partWithin_115 (by decide) (fun c225 => ?_) (fun c225 => ?_)
                  · skip
                    have f226 : z212.toInt = 0 := b_eq rfl (by decide) c225
                    exfalso; omega
                  · skip
                    have f227 : z212.toInt ≠ 0 := b_neq rfl (by decide) c225
                    have hr228 : ∀ k, Rc gT (Crun gs (Ipart gd :: k)) (Crun gs (Ipart gd :: k)) := fun k => Rc.rf
                    have hr229 : ∀ k, Rc gT (Crun gs (Ipart gd :: k)) (Crun (nx gs 1) (Inum 1 9 :: k)) := fun k => Rc.go1 (hr228 k) (pw_144 gd bg (by omega) kd221)
                    refine lv_aload_n hx hb dX12_partWithin_118 rfl (lv_at hl 0 rfl) ?_
                    refine lv_bipush (v := 10) hx hb dX12_partWithin_119 (by decide) ?_
                    refine lv_aload_n hx hb dX12_partWithin_121 rfl (lv_at hl 0 rfl) ?_
                    refine lv_iconst (v := 1) hx hb dX12_partWithin_122 (by decide) ?_
                    refine lv_bipush (v := 9) hx hb dX12_partWithin_123 (by decide) ?_
                    have r230 : Int32.toInt 1 = 1 := by decide
                    have r231 : Int32.toInt 9 = 9 := by decide
                    refine gA_int (gA_runV (As := [.int 1, .int 9]) (rest := [.int 10, .ref (ad 0)]) (ci := 12) (q0 := 0) hx hb hml hown hg hP hD hK hS hA hnw hgk (s_takeNumberA l D ks H.size ad kk V216 L 1 9 (bq) (gn) (gT) ((nx gs 1)) (gl) hMV216 rl220 (show -1 ≤ (Int32.toInt 9) ∧ (Int32.toInt 9) ≤ 999999999 from by omega) (show 0 ≤ (Int32.toInt 1) from by omega)) w2084 w2086 w98 w172 w2087 rfl rfl hdV_yX12_takeNumber ⟨(by show 1 + 1 ≤ 10 * dd + 15; omega), (by show 8 + (3 + 11) + (21) ≤ 300 * dd + 500; omega)⟩ rfl hl.1 rfl (Nat.le_of_ble_eq_true rfl) dX12_partWithin_125 ⟨Nat.le_of_ble_eq_true rfl, Nat.le_of_ble_eq_true rfl⟩) hP hD hK hS hA (fun z232 u233 H locs w234 hP hD hK hS => ?_)
                    obtain ⟨V238, L239⟩ := u233
                    obtain ⟨hMV238, ajV238, axL239, t235, t236, t237⟩ := w234
                    have axL239 : L = L239 := Eq.symm axL239
                    subst axL239
                    have hP : va_P D vwCl (mw ad kk ks.1 V238 L) H := hP
                    have hD : va_D A (mw ad kk ks.1 V238 L) := hD
                    have hMV238 : rgd bM V238 := hMV238
                    have ajV238 : agr [(0, 7), (0, 8)] [] V216 V238 := ajV238
                    have agV238 : agr [(0, 7), (0, 8), (0, 48), (0, 50)] [35, 36, 37, 38, 45, 46, 47] V V238 := agV216.tr ajV238 (by decide) (by decide)
                    have t235 : ((V238 0 8).toInt = 0 ∧ (gT).1 (((nx gs 1)).1 0) = 2 ∧ (Int32.toInt 1) ≤ ((gT).2.1 (((nx gs 1)).1 0)).toInt ∧ ((gT).2.1 (((nx gs 1)).1 0)).toInt ≤ (Int32.toInt 9) ∧ RelM V238 L (bq) (gn) (gT) (nx ((nx gs 1)) 1) (gl)) ∨ (1 ≤ (V238 0 8).toInt ∧ (((gT).1 (((nx gs 1)).1 0) ≠ 2 ∧ (V238 0 8).toInt = 1 + 16 * (gT).2.2 (((nx gs 1)).1 0)) ∨ ((gT).1 (((nx gs 1)).1 0) = 2 ∧ (((gT).2.1 (((nx gs 1)).1 0)).toInt < (Int32.toInt 1) ∨ (Int32.toInt 9) < ((gT).2.1 (((nx gs 1)).1 0)).toInt) ∧ (V238 0 8).toInt = 4 + 16 * (gT).2.2 (((nx gs 1)).1 0)))) := t235
                    have t236 : Imp ((V238 0 8).toInt = 0) ((Int32.toInt 1) ≤ z232.toInt ∧ z232.toInt ≤ (Int32.toInt 9)) := t236
                    have t237 : Imp (1 ≤ (V238 0 8).toInt) (z232.toInt = 0) := t237
                    have r240 : 0 ≤ ((V238 0 8)).toInt ∧ ((V238 0 8)).toInt ≤ 70000 := hMV238 0 8
                    rcases t235 with ⟨q241, h242, h243, h244, rl245⟩ | ⟨q241, ⟨h242, rl245⟩ | ⟨h242, h243, rl245⟩⟩
                    · skip
                      have hr246 : ∀ k, Rc gT (Crun gs (Ipart gd :: k)) (Crun (nx (nx gs 1) 1) (k)) := fun k => Rc.go1 (hr229 k) (nm_y h242 (by omega) (by omega))
                      have ps247 : (nx (nx gs 1) 1).1 0 = (nx gs 1).1 0 + 1 := rfl
                      have fz248 := RelM.rg rl245
                      have nr249 := Imp.go t236 q241
                      refine lv_iconst (v := 0) hx hb dX12_partWithin_128 (by decide) ?_
                      have r250 : Int32.toInt 10 = 10 := by decide
                      have r251 : Int32.toInt 0 = 0 := by decide
                      have pq252 : (V238 0 48).toInt = ((V 0 48)).toInt := congrArg Int32.toInt ((ajV238 0 48 rfl).trans ((ajV216 0 48 rfl).trans ((ajV174 0 48 rfl).trans ((ajV93 0 48 rfl).trans (ajV11 0 48 rfl)))))
                      refine gA_int (gA_runV (As := [.int 10, .int z232, .int 0]) (rest := []) (ci := 12) (q0 := 0) hx hb hml hown hg hP hD hK hS hA hnw hgk (s_emit3 l D ks H.size ad kk V238 L 10 z232 0 hMV238 (show (V238 0 48).toInt ≤ 9999 from by first | omega | ((try (have i_t237 := Imp.go t237 (by omega))); (try (have i_t236 := Imp.go t236 (by omega))); (try (have i_t236 := Imp.go t236 (by omega))); (try (have i_t237 := Imp.go t237 (by omega))); omega))) w2136 w2138 w111 w172 w2139 rfl rfl hdV_yX12_emit ⟨(by show 0 + 1 ≤ 10 * dd + 15; omega), (by show 8 + (4 + 11) + (0) ≤ 300 * dd + 500; omega)⟩ rfl hl.1 rfl (Nat.le_of_ble_eq_true rfl) dX12_partWithin_129 ⟨Nat.le_of_ble_eq_true rfl, Nat.le_of_ble_eq_true rfl⟩) hP hD hK hS hA (fun z253 u254 H locs w255 hP hD hK hS => ?_)
                      obtain ⟨V259, L260⟩ := u254
                      obtain ⟨hMV259, ajV259, axL260, rgz253, t256, t257, t258⟩ := w255
                      have axL260 : L = L260 := Eq.symm axL260
                      subst axL260
                      have hP : va_P D vwCl (mw ad kk ks.1 V259 L) H := hP
                      have hD : va_D A (mw ad kk ks.1 V259 L) := hD
                      have hMV259 : rgd bM V259 := hMV259
                      have ajV259 : agr [(0, 48)] [45, 46, 47] V238 V259 := ajV259
                      have agV259 : agr [(0, 7), (0, 8), (0, 48), (0, 50)] [35, 36, 37, 38, 45, 46, 47] V V259 := agV238.tr ajV259 (by decide) (by decide)
                      have rgz253 : 0 ≤ z253.toInt ∧ z253.toInt ≤ 20000 := rgz253
                      have t256 : (V259 0 48).toInt = (V238 0 48).toInt + 1 := t256
                      have t257 : z253.toInt = (V238 0 49).toInt + (V238 0 48).toInt := t257
                      have t258 : emitted V238 V259 (pA V238) 10 z232 0 := t258
                      have r261 : 0 ≤ ((V259 0 48)).toInt ∧ ((V259 0 48)).toInt ≤ 10000 := hMV259 0 48
                      have pq262 : (V238 0 49).toInt = ((V 0 49)).toInt := congrArg Int32.toInt ((ajV238 0 49 rfl).trans ((ajV216 0 49 rfl).trans ((ajV174 0 49 rfl).trans ((ajV93 0 49 rfl).trans (ajV11 0 49 rfl)))))
                      have r263 : 0 ≤ ((V 0 49)).toInt ∧ ((V 0 49)).toInt ≤ 10000 := hMV 0 49
                      refine lv_istore_n (lv' := [(1, .int z253), (0, .ref (ad 0))]) hx hb dX12_partWithin_132 rfl hl (by decide) rfl (fun ls hl => ?_)
                      refine lv_goto (tgt := 275) hx hb dX12_partWithin_133 (by decide) ?_
                      have pq264 : (V259 0 7).toInt = ((V238 0 7)).toInt := congrArg Int32.toInt (ajV259 0 7 rfl)
                      have pq265 : (V259 0 8).toInt = ((V238 0 8)).toInt := congrArg Int32.toInt (ajV259 0 8 rfl)
                      have pq266 : (V259 0 50).toInt = ((V 0 50)).toInt := congrArg Int32.toInt ((ajV259 0 50 rfl).trans ((ajV238 0 50 rfl).trans ((ajV216 0 50 rfl).trans ((ajV174 0 50 rfl).trans ((ajV93 0 50 rfl).trans (ajV11 0 50 rfl))))))
                      have rl267 : RelM V259 L bq gn gT (nx (nx gs 1) 1) gl := RelM.ag rl245 (show agr [(0, 48)] [45, 46, 47] V238 V259 from (agr.tr agr.rf ajV259 (by decide) (by decide))) (by decide) (show agL [] L L from agL.rf) (by decide)
                      exact W.vret hx hb hr (fun t ht hW => ⟨⟨(V259, L), rfl, ⟨hMV259, agV259, alL, (Imp.mk (fun hp => have hp : (V259 0 8).toInt = 0 := hp; (show (V259 0 48).toInt - (V 0 48).toInt + 1 ≤ 2 * ((V259 0 7).toInt - (V 0 7).toInt) from by first | omega | ((try (have i_t237 := Imp.go t237 (by omega))); (try (have i_t236 := Imp.go t236 (by omega))); (try (have i_t236 := Imp.go t236 (by omega))); (try (have i_t237 := Imp.go t237 (by omega))); omega)))), (show (V259 0 48).toInt ≤ 8054 - 6 * (V 0 50).toInt from by first | omega | ((try (have i_t237 := Imp.go t237 (by omega))); (try (have i_t236 := Imp.go t236 (by omega))); (try (have i_t236 := Imp.go t236 (by omega))); (try (have i_t237 := Imp.go t237 (by omega))); omega)), (show (V259 0 50).toInt = (V 0 50).toInt from by first | omega | ((try (have i_t237 := Imp.go t237 (by omega))); (try (have i_t236 := Imp.go t236 (by omega))); (try (have i_t236 := Imp.go t236 (by omega))); (try (have i_t237 := Imp.go t237 (by omega))); omega)), (show (V 0 48).toInt ≤ (V259 0 48).toInt from by first | omega | ((try (have i_t237 := Imp.go t237 (by omega))); (try (have i_t236 := Imp.go t236 (by omega))); (try (have i_t236 := Imp.go t236 (by omega))); (try (have i_t237 := Imp.go t237 (by omega))); omega)), (Or.inl ⟨W0 rl267, (nx (nx gs 1) 1), hr246, rl267, keepS.le (keepS.tr (keepS.tr (keepS.rf : keepS gs 0 gs) (keepS.n1 1)) (keepS.n1 1)) (by decide)⟩)⟩, by rw [ht]; exact hP, va_K.moved hW.alike hK, hD⟩, hS.F ht⟩) hS.2.2 dX12_partWithin_275
                    · skip
                      have hb268 : ∀ k, Rc gT (Crun gs (Ipart gd :: k)) (Cbad (V238 0 8).toInt) := fun k => Rc.go1 (hr229 k) ((nm_1 h242).trans (fl_eq rfl rl245))
                      have nr269 := Imp.go t237 q241
                      refine lv_iconst (v := 0) hx hb dX12_partWithin_128 (by decide) ?_
                      have r270 : Int32.toInt 10 = 10 := by decide
                      have r271 : Int32.toInt 0 = 0 := by decide
                      have pq272 : (V238 0 48).toInt = ((V 0 48)).toInt := congrArg Int32.toInt ((ajV238 0 48 rfl).trans ((ajV216 0 48 rfl).trans ((ajV174 0 48 rfl).trans ((ajV93 0 48 rfl).trans (ajV11 0 48 rfl)))))
                      refine gA_int (gA_runV (As := [.int 10, .int z232, .int 0]) (rest := []) (ci := 12) (q0 := 0) hx hb hml hown hg hP hD hK hS hA hnw hgk (s_emit3 l D ks H.size ad kk V238 L 10 z232 0 hMV238 (show (V238 0 48).toInt ≤ 9999 from by first | omega | ((try (have i_t237 := Imp.go t237 (by omega))); (try (have i_t236 := Imp.go t236 (by omega))); (try (have i_t236 := Imp.go t236 (by omega))); (try (have i_t237 := Imp.go t237 (by omega))); omega))) w2136 w2138 w111 w172 w2139 rfl rfl hdV_yX12_emit ⟨(by show 0 + 1 ≤ 10 * dd + 15; omega), (by show 8 + (4 + 11) + (0) ≤ 300 * dd + 500; omega)⟩ rfl hl.1 rfl (Nat.le_of_ble_eq_true rfl) dX12_partWithin_129 ⟨Nat.le_of_ble_eq_true rfl, Nat.le_of_ble_eq_true rfl⟩) hP hD hK hS hA (fun z273 u274 H locs w275 hP hD hK hS => ?_)
                      obtain ⟨V279, L280⟩ := u274
                      obtain ⟨hMV279, ajV279, axL280, rgz273, t276, t277, t278⟩ := w275
                      have axL280 : L = L280 := Eq.symm axL280
                      subst axL280
                      have hP : va_P D vwCl (mw ad kk ks.1 V279 L) H := hP
                      have hD : va_D A (mw ad kk ks.1 V279 L) := hD
                      have hMV279 : rgd bM V279 := hMV279
                      have ajV279 : agr [(0, 48)] [45, 46, 47] V238 V279 := ajV279
                      have agV279 : agr [(0, 7), (0, 8), (0, 48), (0, 50)] [35, 36, 37, 38, 45, 46, 47] V V279 := agV238.tr ajV279 (by decide) (by decide)
                      have rgz273 : 0 ≤ z273.toInt ∧ z273.toInt ≤ 20000 := rgz273
                      have t276 : (V279 0 48).toInt = (V238 0 48).toInt + 1 := t276
                      have t277 : z273.toInt = (V238 0 49).toInt + (V238 0 48).toInt := t277
                      have t278 : emitted V238 V279 (pA V238) 10 z232 0 := t278
                      have r281 : 0 ≤ ((V279 0 48)).toInt ∧ ((V279 0 48)).toInt ≤ 10000 := hMV279 0 48
                      have pq282 : (V238 0 49).toInt = ((V 0 49)).toInt := congrArg Int32.toInt ((ajV238 0 49 rfl).trans ((ajV216 0 49 rfl).trans ((ajV174 0 49 rfl).trans ((ajV93 0 49 rfl).trans (ajV11 0 49 rfl)))))
                      have r283 : 0 ≤ ((V 0 49)).toInt ∧ ((V 0 49)).toInt ≤ 10000 := hMV 0 49
                      refine lv_istore_n (lv' := [(1, .int z273), (0, .ref (ad 0))]) hx hb dX12_partWithin_132 rfl hl (by decide) rfl (fun ls hl => ?_)
                      refine lv_goto (tgt := 275) hx hb dX12_partWithin_133 (by decide) ?_
                      have pq284 : (V279 0 7).toInt = ((V238 0 7)).toInt := congrArg Int32.toInt (ajV279 0 7 rfl)
                      have pq285 : (V279 0 8).toInt = ((V238 0 8)).toInt := congrArg Int32.toInt (ajV279 0 8 rfl)
                      have pq286 : (V279 0 50).toInt = ((V 0 50)).toInt := congrArg Int32.toInt ((ajV279 0 50 rfl).trans ((ajV238 0 50 rfl).trans ((ajV216 0 50 rfl).trans ((ajV174 0 50 rfl).trans ((ajV93 0 50 rfl).trans (ajV11 0 50 rfl))))))
                      exact W.vret hx hb hr (fun t ht hW => ⟨⟨(V279, L), rfl, ⟨hMV279, agV279, alL, (Imp.mk (fun hp => have hp : (V279 0 8).toInt = 0 := hp; (show (V279 0 48).toInt - (V 0 48).toInt + 1 ≤ 2 * ((V279 0 7).toInt - (V 0 7).toInt) from by first | omega | ((try (have i_t237 := Imp.go t237 (by omega))); (try (have i_t236 := Imp.go t236 (by omega))); (try (have i_t236 := Imp.go t236 (by omega))); (try (have i_t237 := Imp.go t237 (by omega))); omega)))), (show (V279 0 48).toInt ≤ 8054 - 6 * (V 0 50).toInt from by first | omega | ((try (have i_t237 := Imp.go t237 (by omega))); (try (have i_t236 := Imp.go t236 (by omega))); (try (have i_t236 := Imp.go t236 (by omega))); (try (have i_t237 := Imp.go t237 (by omega))); omega)), (show (V279 0 50).toInt = (V 0 50).toInt from by first | omega | ((try (have i_t237 := Imp.go t237 (by omega))); (try (have i_t236 := Imp.go t236 (by omega))); (try (have i_t236 := Imp.go t236 (by omega))); (try (have i_t237 := Imp.go t237 (by omega))); omega)), (show (V 0 48).toInt ≤ (V279 0 48).toInt from by first | omega | ((try (have i_t237 := Imp.go t237 (by omega))); (try (have i_t236 := Imp.go t236 (by omega))); (try (have i_t236 := Imp.go t236 (by omega))); (try (have i_t237 := Imp.go t237 (by omega))); omega)), (Or.inr ⟨(show 1 ≤ (V279 0 8).toInt from by omega), (fun k => by rw [show (V279 0 8).toInt = (V238 0 8).toInt from by omega]; exact hb268 k)⟩)⟩, by rw [ht]; exact hP, va_K.moved hW.alike hK, hD⟩, hS.F ht⟩) hS.2.2 dX12_partWithin_275
                    · skip
                      have hb287 : ∀ k, Rc gT (Crun gs (Ipart gd :: k)) (Cbad (V238 0 8).toInt) := fun k => Rc.go1 (hr229 k) ((nm_4 h242 (by omega)).trans (fl_eq rfl rl245))
                      have nr288 := Imp.go t237 q241
                      refine lv_iconst (v := 0) hx hb dX12_partWithin_128 (by decide) ?_
                      have r289 : Int32.toInt 10 = 10 := by decide
                      have r290 : Int32.toInt 0 = 0 := by decide
                      have pq291 : (V238 0 48).toInt = ((V 0 48)).toInt := congrArg Int32.toInt ((ajV238 0 48 rfl).trans ((ajV216 0 48 rfl).trans ((ajV174 0 48 rfl).trans ((ajV93 0 48 rfl).trans (ajV11 0 48 rfl)))))
                      refine gA_int (gA_runV (As := [.int 10, .int z232, .int 0]) (rest := []) (ci := 12) (q0 := 0) hx hb hml hown hg hP hD hK hS hA hnw hgk (s_emit3 l D ks H.size ad kk V238 L 10 z232 0 hMV238 (show (V238 0 48).toInt ≤ 9999 from by first | omega | ((try (have i_t237 := Imp.go t237 (by omega))); (try (have i_t236 := Imp.go t236 (by omega))); (try (have i_t236 := Imp.go t236 (by omega))); (try (have i_t237 := Imp.go t237 (by omega))); omega))) w2136 w2138 w111 w172 w2139 rfl rfl hdV_yX12_emit ⟨(by show 0 + 1 ≤ 10 * dd + 15; omega), (by show 8 + (4 + 11) + (0) ≤ 300 * dd + 500; omega)⟩ rfl hl.1 rfl (Nat.le_of_ble_eq_true rfl) dX12_partWithin_129 ⟨Nat.le_of_ble_eq_true rfl, Nat.le_of_ble_eq_true rfl⟩) hP hD hK hS hA (fun z292 u293 H locs w294 hP hD hK hS => ?_)
                      obtain ⟨V298, L299⟩ := u293
                      obtain ⟨hMV298, ajV298, axL299, rgz292, t295, t296, t297⟩ := w294
                      have axL299 : L = L299 := Eq.symm axL299
                      subst axL299
                      have hP : va_P D vwCl (mw ad kk ks.1 V298 L) H := hP
                      have hD : va_D A (mw ad kk ks.1 V298 L) := hD
                      have hMV298 : rgd bM V298 := hMV298
                      have ajV298 : agr [(0, 48)] [45, 46, 47] V238 V298 := ajV298
                      have agV298 : agr [(0, 7), (0, 8), (0, 48), (0, 50)] [35, 36, 37, 38, 45, 46, 47] V V298 := agV238.tr ajV298 (by decide) (by decide)
                      have rgz292 : 0 ≤ z292.toInt ∧ z292.toInt ≤ 20000 := rgz292
                      have t295 : (V298 0 48).toInt = (V238 0 48).toInt + 1 := t295
                      have t296 : z292.toInt = (V238 0 49).toInt + (V238 0 48).toInt := t296
                      have t297 : emitted V238 V298 (pA V238) 10 z232 0 := t297
                      have r300 : 0 ≤ ((V298 0 48)).toInt ∧ ((V298 0 48)).toInt ≤ 10000 := hMV298 0 48
                      have pq301 : (V238 0 49).toInt = ((V 0 49)).toInt := congrArg Int32.toInt ((ajV238 0 49 rfl).trans ((ajV216 0 49 rfl).trans ((ajV174 0 49 rfl).trans ((ajV93 0 49 rfl).trans (ajV11 0 49 rfl)))))
                      have r302 : 0 ≤ ((V 0 49)).toInt ∧ ((V 0 49)).toInt ≤ 10000 := hMV 0 49
                      refine lv_istore_n (lv' := [(1, .int z292), (0, .ref (ad 0))]) hx hb dX12_partWithin_132 rfl hl (by decide) rfl (fun ls hl => ?_)
                      refine lv_goto (tgt := 275) hx hb dX12_partWithin_133 (by decide) ?_
                      have pq303 : (V298 0 7).toInt = ((V238 0 7)).toInt := congrArg Int32.toInt (ajV298 0 7 rfl)
                      have pq304 : (V298 0 8).toInt = ((V238 0 8)).toInt := congrArg Int32.toInt (ajV298 0 8 rfl)
                      have pq305 : (V298 0 50).toInt = ((V 0 50)).toInt := congrArg Int32.toInt ((ajV298 0 50 rfl).trans ((ajV238 0 50 rfl).trans ((ajV216 0 50 rfl).trans ((ajV174 0 50 rfl).trans ((ajV93 0 50 rfl).trans (ajV11 0 50 rfl))))))
                      exact W.vret hx hb hr (fun t ht hW => ⟨⟨(V298, L), rfl, ⟨hMV298, agV298, alL, (Imp.mk (fun hp => have hp : (V298 0 8).toInt = 0 := hp; (show (V298 0 48).toInt - (V 0 48).toInt + 1 ≤ 2 * ((V298 0 7).toInt - (V 0 7).toInt) from by first | omega | ((try (have i_t237 := Imp.go t237 (by omega))); (try (have i_t236 := Imp.go t236 (by omega))); (try (have i_t236 := Imp.go t236 (by omega))); (try (have i_t237 := Imp.go t237 (by omega))); omega)))), (show (V298 0 48).toInt ≤ 8054 - 6 * (V 0 50).toInt from by first | omega | ((try (have i_t237 := Imp.go t237 (by omega))); (try (have i_t236 := Imp.go t236 (by omega))); (try (have i_t236 := Imp.go t236 (by omega))); (try (have i_t237 := Imp.go t237 (by omega))); omega)), (show (V298 0 50).toInt = (V 0 50).toInt from by first | omega | ((try (have i_t237 := Imp.go t237 (by omega))); (try (have i_t236 := Imp.go t236 (by omega))); (try (have i_t236 := Imp.go t236 (by omega))); (try (have i_t237 := Imp.go t237 (by omega))); omega)), (show (V 0 48).toInt ≤ (V298 0 48).toInt from by first | omega | ((try (have i_t237 := Imp.go t237 (by omega))); (try (have i_t236 := Imp.go t236 (by omega))); (try (have i_t236 := Imp.go t236 (by omega))); (try (have i_t237 := Imp.go t237 (by omega))); omega)), (Or.inr ⟨(show 1 ≤ (V298 0 8).toInt from by omega), (fun k => by rw [show (V298 0 8).toInt = (V238 0 8).toInt from by omega]; exact hb287 k)⟩)⟩, by rw [ht]; exact hP, va_K.moved hW.alike hK, hD⟩, hS.F ht⟩) hS.2.2 dX12_partWithin_275
                · skip
                  have kd306 : gT.1 (gs.1 0) ≠ 144 := fun h9 => h219 (h9.trans (by decide))
                  have fz307 := RelM.rg rl220
                  have pq308 : (V216 0 8).toInt = ((V 0 8)).toInt := congrArg Int32.toInt ((ajV216 0 8 rfl).trans ((ajV174 0 8 rfl).trans ((ajV93 0 8 rfl).trans (ajV11 0 8 rfl))))
                  refine lv_if_eq (tgt := 136) hx hb dX12_partWithin_115 (by decide) (fun c309 => ?_) (fun c309 => ?_)
                  · skip
                    have f310 : z212.toInt = 0 := b_eq rfl (by decide) c309
                    refine lv_aload_n hx hb dX12_partWithin_136 rfl (lv_at hl 0 rfl) ?_
                    refine lv_iconst (v := 2) hx hb dX12_partWithin_137 (by decide) ?_
                    have r311 : Int32.toInt 2 = 2 := by decide
                    refine gA_int (gA_runV (As := [.int 2]) (rest := []) (ci := 12) (q0 := 0) hx hb hml hown hg hP hD hK hS hA hnw hgk (s_hasWordA l D ks H.size ad kk V216 L 2 (bq) (gn) (gT) (gs) (gl) hMV216 (by decide) rl220) w2051 w2053 w90 w172 w2054 rfl rfl hdV_yX12_hasWord ⟨(by show 1 + 1 ≤ 10 * dd + 15; omega), (by show 8 + (3 + 11) + (21) ≤ 300 * dd + 500; omega)⟩ rfl hl.1 rfl (Nat.le_of_ble_eq_true rfl) dX12_partWithin_138 ⟨Nat.le_of_ble_eq_true rfl, Nat.le_of_ble_eq_true rfl⟩) hP hD hK hS hA (fun z312 u313 H locs w314 hP hD hK hS => ?_)
                    obtain ⟨V316, L317⟩ := u313
                    obtain ⟨hMV316, ajV316, axL317, rgz312, t315⟩ := w314
                    have axL317 : L = L317 := Eq.symm axL317
                    subst axL317
                    have hP : va_P D vwCl (mw ad kk ks.1 V316 L) H := hP
                    have hD : va_D A (mw ad kk ks.1 V316 L) := hD
                    have hMV316 : rgd bM V316 := hMV316
                    have ajV316 : agr [(0, 7)] [] V216 V316 := ajV316
                    have agV316 : agr [(0, 7), (0, 8), (0, 48), (0, 50)] [35, 36, 37, 38, 45, 46, 47] V V316 := agV216.tr ajV316 (by decide) (by decide)
                    have rgz312 : 0 ≤ z312.toInt ∧ z312.toInt ≤ 1 := rgz312
                    have t315 : (z312.toInt = 1 ∧ (gT).1 ((gs).1 0) = 128 + (Int32.toInt 2) ∧ RelM V316 L (bq) (gn) (gT) (nx (gs) 1) (gl)) ∨ (z312.toInt = 0 ∧ (gT).1 ((gs).1 0) ≠ 128 + (Int32.toInt 2) ∧ RelM V316 L (bq) (gn) (gT) (gs) (gl)) := t315
                    rcases t315 with ⟨q318, h319, rl320⟩ | ⟨q318, h319, rl320⟩
                    · skip
                      have kd321 : gT.1 (gs.1 0) = 130 := h319.trans (by decide)
                      have ps322 : (nx gs 1).1 0 = gs.1 0 + 1 := rfl
                      have fz323 := RelM.rg rl320
                      have pq324 : (V316 0 8).toInt = ((V 0 8)).toInt := congrArg Int32.toInt ((ajV316 0 8 rfl).trans ((ajV216 0 8 rfl).trans ((ajV174 0 8 rfl).trans ((ajV93 0 8 rfl).trans (ajV11 0 8 rfl)))))
                      refine lv_if_eq (tgt := 179) hx hb dX12_partWithin_141 (by decide) (fun c325 => ?_) (fun c325 => ?_)
                      · skip
                        have f326 : z312.toInt = 0 := b_eq rfl (by decide) c325
                        exfalso; omega
                      · skip
                        have f327 : z312.toInt ≠ 0 := b_neq rfl (by decide) c325
                        have q16 : (V 16 (Int32.toNatClampNeg (V 0 12))).toInt = (V 16 bq).toInt := by rw [cq0]
                        have hr328 : ∀ k, Rc gT (Crun gs (Ipart gd :: k)) (Crun gs (Ipart gd :: k)) := fun k => Rc.rf
                        have hr329 : ∀ k, Rc gT (Crun gs (Ipart gd :: k)) (Crun (nx gs 1) (Isetting :: k)) := fun k => Rc.go1 (hr328 k) (pw_130 gd bg (by omega) kd321)
                        refine lv_aload_n hx hb dX12_partWithin_144 rfl (lv_at hl 0 rfl) ?_
                        refine lv_bipush (v := 11) hx hb dX12_partWithin_145 (by decide) ?_
                        refine lv_aload_n hx hb dX12_partWithin_147 rfl (lv_at hl 0 rfl) ?_
                        refine lv_aload_n hx hb dX12_partWithin_148 rfl (lv_at hl 0 rfl) ?_
                        refine va_get (D := D) (ci := 12) (v := .ref (ad 17)) (C := RX12) (T := TX12) (N := 100) hx hb hg inX12 hown hK hP 0 rfl rfl 17 (by decide) (hg _ w1723) (fun _ h9 => h9) rfl dX12_partWithin_149 ?_
                        refine lv_bipush (v := 12) hx hb dX12_partWithin_152 (by decide) ?_
                        refine lv_aload_n hx hb dX12_partWithin_154 rfl (lv_at hl 0 rfl) ?_
                        refine va_get (D := D) (ci := 12) (v := .int (V316 0 12)) (C := RX12) (T := TX12) (N := 100) hx hb hg inX12 hown hK hP 0 rfl rfl 12 (by decide) (hg _ w1718) (fun _ h9 => h9) rfl dX12_partWithin_155 ?_
                        refine g_top (v := (V 0 12)) ((ajV316 0 12 rfl).trans ((ajV216 0 12 rfl).trans ((ajV174 0 12 rfl).trans ((ajV93 0 12 rfl).trans (ajV11 0 12 rfl))))) ?_
                        have r330 : 0 ≤ ((V 0 12)).toInt ∧ ((V 0 12)).toInt ≤ 1 := hMV 0 12
                        refine lv_imul hx hb dX12_partWithin_158 ?_
                        refine lv_topi (fun z331 ez331 => ?_)
                        have hz331 : z331.toInt = 12 * ((V 0 12)).toInt := i_mul ez331 (by decide) rfl (by omega)
                        refine lv_aload_n hx hb dX12_partWithin_159 rfl (lv_at hl 0 rfl) ?_
                        refine va_get (D := D) (ci := 12) (v := .ref (ad 16)) (C := RX12) (T := TX12) (N := 100) hx hb hg inX12 hown hK hP 0 rfl rfl 16 (by decide) (hg _ w1722) (fun _ h9 => h9) rfl dX12_partWithin_160 ?_
                        refine lv_aload_n hx hb dX12_partWithin_163 rfl (lv_at hl 0 rfl) ?_
                        refine va_get (D := D) (ci := 12) (v := .int (V316 0 12)) (C := RX12) (T := TX12) (N := 100) hx hb hg inX12 hown hK hP 0 rfl rfl 12 (by decide) (hg _ w1718) (fun _ h9 => h9) rfl dX12_partWithin_164 ?_
                        refine g_top (v := (V 0 12)) ((ajV316 0 12 rfl).trans ((ajV216 0 12 rfl).trans ((ajV174 0 12 rfl).trans ((ajV93 0 12 rfl).trans (ajV11 0 12 rfl))))) ?_
                        refine va_iald (D := D) (i := (V 0 12)) hx hb hK hP 9 8 rfl rfl (i_in (a := ((V 0 12)).toInt) rfl (by omega)) dX12_partWithin_167 ?_
                        refine g_top (v := (V 16 (Int32.toNatClampNeg (V 0 12)))) ((ajV316 16 (Int32.toNatClampNeg (V 0 12)) rfl).trans ((ajV216 16 (Int32.toNatClampNeg (V 0 12)) rfl).trans ((ajV174 16 (Int32.toNatClampNeg (V 0 12)) rfl).trans ((ajV93 16 (Int32.toNatClampNeg (V 0 12)) rfl).trans (ajV11 16 (Int32.toNatClampNeg (V 0 12)) rfl))))) ?_
                        have r332 : 0 ≤ ((V 16 (Int32.toNatClampNeg (V 0 12)))).toInt ∧ ((V 16 (Int32.toNatClampNeg (V 0 12)))).toInt ≤ 12 := hMV 16 (Int32.toNatClampNeg (V 0 12))
                        have pq333 : (V316 16 bq).toInt = ((V 16 bq)).toInt := congrArg Int32.toInt ((ajV316 16 bq rfl).trans ((ajV216 16 bq rfl).trans ((ajV174 16 bq rfl).trans ((ajV93 16 bq rfl).trans (ajV11 16 bq rfl)))))
                        have r334 : 0 ≤ ((V 16 bq)).toInt ∧ ((V 16 bq)).toInt ≤ 12 := hMV 16 bq
                        refine gA_int (gA_runV (As := [.ref (ad 17), .int z331, .int (V 16 (Int32.toNatClampNeg (V 0 12)))]) (rest := [.int 11, .ref (ad 0)]) (ci := 12) (q0 := 0) hx hb hml hown hg hP hD hK hS hA hnw hgk (s_named1 l D ks H.size ad kk V316 L z331 (V 16 (Int32.toNatClampNeg (V 0 12))) (bq) (gn) (gT) ((nx gs 1)) (gl) hMV316 (by omega) (by omega) rl320 (show z331.toInt = ((12 * (bq) : Nat) : Int) from by omega) (show ((V 16 (Int32.toNatClampNeg (V 0 12)))).toInt = (V316 16 (bq)).toInt from by omega)) w2063 w2065 w93 w172 w2066 rfl rfl hdV_yX12_named ⟨(by show 1 + 1 ≤ 10 * dd + 15; omega), (by show 8 + (5 + 11) + (27) ≤ 300 * dd + 500; omega)⟩ rfl hl.1 rfl (Nat.le_of_ble_eq_true rfl) dX12_partWithin_168 ⟨Nat.le_of_ble_eq_true rfl, Nat.le_of_ble_eq_true rfl⟩) hP hD hK hS hA (fun z335 u336 H locs w337 hP hD hK hS => ?_)
                        obtain ⟨V341, L342⟩ := u336
                        obtain ⟨hMV341, ajV341, axL342, rgz335, t338, t339, t340⟩ := w337
                        have axL342 : L = L342 := Eq.symm axL342
                        subst axL342
                        have hP : va_P D vwCl (mw ad kk ks.1 V341 L) H := hP
                        have hD : va_D A (mw ad kk ks.1 V341 L) := hD
                        have hMV341 : rgd bM V341 := hMV341
                        have ajV341 : agr [(0, 7), (0, 8)] [] V316 V341 := ajV341
                        have agV341 : agr [(0, 7), (0, 8), (0, 48), (0, 50)] [35, 36, 37, 38, 45, 46, 47] V V341 := agV316.tr ajV341 (by decide) (by decide)
                        have rgz335 : (-1) ≤ z335.toInt ∧ z335.toInt ≤ 47 := rgz335
                        have t338 : KmN (look (gT) ((nx gs 1)) (((nx gs 1)).2.1 1)) (V341 0 8).toInt (fun f9 => RelM V341 L (bq) (gn) (gT) (nx ((nx gs 1)) 1) (gl) ∧ z335.toInt = ((f9 : Nat) : Int) ∧ f9 < 12) := t338
                        have t339 : z335.toInt < ((V 16 (Int32.toNatClampNeg (V 0 12)))).toInt := t339
                        have t340 : Imp ((V341 0 8).toInt = 0) (0 ≤ z335.toInt) := t340
                        have r343 : 0 ≤ ((V341 0 8)).toInt ∧ ((V341 0 8)).toInt ≤ 70000 := hMV341 0 8
                        rcases t338 with ⟨q344, fx345, h346, rl347, hf348, hb349⟩ | ⟨q344, h346⟩
                        · skip
                          have hr350 : ∀ k, Rc gT (Crun gs (Ipart gd :: k)) (Crun (nx (nx gs 1) 1) (k)) := fun k => Rc.go1 (hr329 k) (se_y h346)
                          have ps351 : (nx (nx gs 1) 1).1 0 = (nx gs 1).1 0 + 1 := rfl
                          have fz352 := RelM.rg rl347
                          refine lv_iconst (v := 0) hx hb dX12_partWithin_171 (by decide) ?_
                          have r353 : Int32.toInt 11 = 11 := by decide
                          have r354 : Int32.toInt 0 = 0 := by decide
                          have pq355 : (V341 0 48).toInt = ((V 0 48)).toInt := congrArg Int32.toInt ((ajV341 0 48 rfl).trans ((ajV316 0 48 rfl).trans ((ajV216 0 48 rfl).trans ((ajV174 0 48 rfl).trans ((ajV93 0 48 rfl).trans (ajV11 0 48 rfl))))))
                          refine gA_int (gA_runV (As := [.int 11, .int z335, .int 0]) (rest := []) (ci := 12) (q0 := 0) hx hb hml hown hg hP hD hK hS hA hnw hgk (s_emit3 l D ks H.size ad kk V341 L 11 z335 0 hMV341 (show (V341 0 48).toInt ≤ 9999 from by first | omega | ((try (have i_t340 := Imp.go t340 (by omega))); omega))) w2136 w2138 w111 w172 w2139 rfl rfl hdV_yX12_emit ⟨(by show 0 + 1 ≤ 10 * dd + 15; omega), (by show 8 + (4 + 11) + (0) ≤ 300 * dd + 500; omega)⟩ rfl hl.1 rfl (Nat.le_of_ble_eq_true rfl) dX12_partWithin_172 ⟨Nat.le_of_ble_eq_true rfl, Nat.le_of_ble_eq_true rfl⟩) hP hD hK hS hA (fun z356 u357 H locs w358 hP hD hK hS => ?_)
                          obtain ⟨V362, L363⟩ := u357
                          obtain ⟨hMV362, ajV362, axL363, rgz356, t359, t360, t361⟩ := w358
                          have axL363 : L = L363 := Eq.symm axL363
                          subst axL363
                          have hP : va_P D vwCl (mw ad kk ks.1 V362 L) H := hP
                          have hD : va_D A (mw ad kk ks.1 V362 L) := hD
                          have hMV362 : rgd bM V362 := hMV362
                          have ajV362 : agr [(0, 48)] [45, 46, 47] V341 V362 := ajV362
                          have agV362 : agr [(0, 7), (0, 8), (0, 48), (0, 50)] [35, 36, 37, 38, 45, 46, 47] V V362 := agV341.tr ajV362 (by decide) (by decide)
                          have rgz356 : 0 ≤ z356.toInt ∧ z356.toInt ≤ 20000 := rgz356
                          have t359 : (V362 0 48).toInt = (V341 0 48).toInt + 1 := t359
                          have t360 : z356.toInt = (V341 0 49).toInt + (V341 0 48).toInt := t360
                          have t361 : emitted V341 V362 (pA V341) 11 z335 0 := t361
                          have r364 : 0 ≤ ((V362 0 48)).toInt ∧ ((V362 0 48)).toInt ≤ 10000 := hMV362 0 48
                          have pq365 : (V341 0 49).toInt = ((V 0 49)).toInt := congrArg Int32.toInt ((ajV341 0 49 rfl).trans ((ajV316 0 49 rfl).trans ((ajV216 0 49 rfl).trans ((ajV174 0 49 rfl).trans ((ajV93 0 49 rfl).trans (ajV11 0 49 rfl))))))
                          have r366 : 0 ≤ ((V 0 49)).toInt ∧ ((V 0 49)).toInt ≤ 10000 := hMV 0 49
                          refine lv_istore_n (lv' := [(1, .int z356), (0, .ref (ad 0))]) hx hb dX12_partWithin_175 rfl hl (by decide) rfl (fun ls hl => ?_)
                          refine lv_goto (tgt := 275) hx hb dX12_partWithin_176 (by decide) ?_
                          have pq367 : (V362 0 7).toInt = ((V341 0 7)).toInt := congrArg Int32.toInt (ajV362 0 7 rfl)
                          have pq368 : (V362 0 8).toInt = ((V341 0 8)).toInt := congrArg Int32.toInt (ajV362 0 8 rfl)
                          have pq369 : (V362 0 50).toInt = ((V 0 50)).toInt := congrArg Int32.toInt ((ajV362 0 50 rfl).trans ((ajV341 0 50 rfl).trans ((ajV316 0 50 rfl).trans ((ajV216 0 50 rfl).trans ((ajV174 0 50 rfl).trans ((ajV93 0 50 rfl).trans (ajV11 0 50 rfl)))))))
                          have rl370 : RelM V362 L bq gn gT (nx (nx gs 1) 1) gl := RelM.ag rl347 (show agr [(0, 48)] [45, 46, 47] V341 V362 from (agr.tr agr.rf ajV362 (by decide) (by decide))) (by decide) (show agL [] L L from agL.rf) (by decide)
                          exact W.vret hx hb hr (fun t ht hW => ⟨⟨(V362, L), rfl, ⟨hMV362, agV362, alL, (Imp.mk (fun hp => have hp : (V362 0 8).toInt = 0 := hp; (show (V362 0 48).toInt - (V 0 48).toInt + 1 ≤ 2 * ((V362 0 7).toInt - (V 0 7).toInt) from by first | omega | ((try (have i_t340 := Imp.go t340 (by omega))); omega)))), (show (V362 0 48).toInt ≤ 8054 - 6 * (V 0 50).toInt from by first | omega | ((try (have i_t340 := Imp.go t340 (by omega))); omega)), (show (V362 0 50).toInt = (V 0 50).toInt from by first | omega | ((try (have i_t340 := Imp.go t340 (by omega))); omega)), (show (V 0 48).toInt ≤ (V362 0 48).toInt from by first | omega | ((try (have i_t340 := Imp.go t340 (by omega))); omega)), (Or.inl ⟨W0 rl370, (nx (nx gs 1) 1), hr350, rl370, keepS.le (keepS.tr (keepS.tr (keepS.rf : keepS gs 0 gs) (keepS.n1 1)) (keepS.n1 1)) (by decide)⟩)⟩, by rw [ht]; exact hP, va_K.moved hW.alike hK, hD⟩, hS.F ht⟩) hS.2.2 dX12_partWithin_275
                        · skip
                          have hb371 : ∀ k, Rc gT (Crun gs (Ipart gd :: k)) (Cbad (V341 0 8).toInt) := fun k => Rc.go1 (hr329 k) (se_b h346)
                          refine lv_iconst (v := 0) hx hb dX12_partWithin_171 (by decide) ?_
                          have r372 : Int32.toInt 11 = 11 := by decide
                          have r373 : Int32.toInt 0 = 0 := by decide
                          have pq374 : (V341 0 48).toInt = ((V 0 48)).toInt := congrArg Int32.toInt ((ajV341 0 48 rfl).trans ((ajV316 0 48 rfl).trans ((ajV216 0 48 rfl).trans ((ajV174 0 48 rfl).trans ((ajV93 0 48 rfl).trans (ajV11 0 48 rfl))))))
                          refine gA_int (gA_runV (As := [.int 11, .int z335, .int 0]) (rest := []) (ci := 12) (q0 := 0) hx hb hml hown hg hP hD hK hS hA hnw hgk (s_emit3 l D ks H.size ad kk V341 L 11 z335 0 hMV341 (show (V341 0 48).toInt ≤ 9999 from by first | omega | ((try (have i_t340 := Imp.go t340 (by omega))); omega))) w2136 w2138 w111 w172 w2139 rfl rfl hdV_yX12_emit ⟨(by show 0 + 1 ≤ 10 * dd + 15; omega), (by show 8 + (4 + 11) + (0) ≤ 300 * dd + 500; omega)⟩ rfl hl.1 rfl (Nat.le_of_ble_eq_true rfl) dX12_partWithin_172 ⟨Nat.le_of_ble_eq_true rfl, Nat.le_of_ble_eq_true rfl⟩) hP hD hK hS hA (fun z375 u376 H locs w377 hP hD hK hS => ?_)
                          obtain ⟨V381, L382⟩ := u376
                          obtain ⟨hMV381, ajV381, axL382, rgz375, t378, t379, t380⟩ := w377
                          have axL382 : L = L382 := Eq.symm axL382
                          subst axL382
                          have hP : va_P D vwCl (mw ad kk ks.1 V381 L) H := hP
                          have hD : va_D A (mw ad kk ks.1 V381 L) := hD
                          have hMV381 : rgd bM V381 := hMV381
                          have ajV381 : agr [(0, 48)] [45, 46, 47] V341 V381 := ajV381
                          have agV381 : agr [(0, 7), (0, 8), (0, 48), (0, 50)] [35, 36, 37, 38, 45, 46, 47] V V381 := agV341.tr ajV381 (by decide) (by decide)
                          have rgz375 : 0 ≤ z375.toInt ∧ z375.toInt ≤ 20000 := rgz375
                          have t378 : (V381 0 48).toInt = (V341 0 48).toInt + 1 := t378
                          have t379 : z375.toInt = (V341 0 49).toInt + (V341 0 48).toInt := t379
                          have t380 : emitted V341 V381 (pA V341) 11 z335 0 := t380
                          have r383 : 0 ≤ ((V381 0 48)).toInt ∧ ((V381 0 48)).toInt ≤ 10000 := hMV381 0 48
                          have pq384 : (V341 0 49).toInt = ((V 0 49)).toInt := congrArg Int32.toInt ((ajV341 0 49 rfl).trans ((ajV316 0 49 rfl).trans ((ajV216 0 49 rfl).trans ((ajV174 0 49 rfl).trans ((ajV93 0 49 rfl).trans (ajV11 0 49 rfl))))))
                          have r385 : 0 ≤ ((V 0 49)).toInt ∧ ((V 0 49)).toInt ≤ 10000 := hMV 0 49
                          refine lv_istore_n (lv' := [(1, .int z375), (0, .ref (ad 0))]) hx hb dX12_partWithin_175 rfl hl (by decide) rfl (fun ls hl => ?_)
                          refine lv_goto (tgt := 275) hx hb dX12_partWithin_176 (by decide) ?_
                          have pq386 : (V381 0 7).toInt = ((V341 0 7)).toInt := congrArg Int32.toInt (ajV381 0 7 rfl)
                          have pq387 : (V381 0 8).toInt = ((V341 0 8)).toInt := congrArg Int32.toInt (ajV381 0 8 rfl)
                          have pq388 : (V381 0 50).toInt = ((V 0 50)).toInt := congrArg Int32.toInt ((ajV381 0 50 rfl).trans ((ajV341 0 50 rfl).trans ((ajV316 0 50 rfl).trans ((ajV216 0 50 rfl).trans ((ajV174 0 50 rfl).trans ((ajV93 0 50 rfl).trans (ajV11 0 50 rfl)))))))
                          exact W.vret hx hb hr (fun t ht hW => ⟨⟨(V381, L), rfl, ⟨hMV381, agV381, alL, (Imp.mk (fun hp => have hp : (V381 0 8).toInt = 0 := hp; (show (V381 0 48).toInt - (V 0 48).toInt + 1 ≤ 2 * ((V381 0 7).toInt - (V 0 7).toInt) from by first | omega | ((try (have i_t340 := Imp.go t340 (by omega))); omega)))), (show (V381 0 48).toInt ≤ 8054 - 6 * (V 0 50).toInt from by first | omega | ((try (have i_t340 := Imp.go t340 (by omega))); omega)), (show (V381 0 50).toInt = (V 0 50).toInt from by first | omega | ((try (have i_t340 := Imp.go t340 (by omega))); omega)), (show (V 0 48).toInt ≤ (V381 0 48).toInt from by first | omega | ((try (have i_t340 := Imp.go t340 (by omega))); omega)), (Or.inr ⟨(show 1 ≤ (V381 0 8).toInt from by omega), (fun k => by rw [show (V381 0 8).toInt = (V341 0 8).toInt from by omega]; exact hb371 k)⟩)⟩, by rw [ht]; exact hP, va_K.moved hW.alike hK, hD⟩, hS.F ht⟩) hS.2.2 dX12_partWithin_275
                    · skip
                      have kd389 : gT.1 (gs.1 0) ≠ 130 := fun h9 => h319 (h9.trans (by decide))
                      have fz390 := RelM.rg rl320
                      have pq391 : (V316 0 8).toInt = ((V 0 8)).toInt := congrArg Int32.toInt ((ajV316 0 8 rfl).trans ((ajV216 0 8 rfl).trans ((ajV174 0 8 rfl).trans ((ajV93 0 8 rfl).trans (ajV11 0 8 rfl)))))
                      refine lv_if_eq (tgt := 179) hx hb dX12_partWithin_141 (by decide) (fun c392 => ?_) (fun c392 => ?_)
                      · skip
                        have f393 : z312.toInt = 0 := b_eq rfl (by decide) c392
                        refine lv_aload_n hx hb dX12_partWithin_179 rfl (lv_at hl 0 rfl) ?_
                        refine lv_bipush (v := 17) hx hb dX12_partWithin_180 (by decide) ?_
                        have r394 : Int32.toInt 17 = 17 := by decide
                        refine gA_int (gA_runV (As := [.int 17]) (rest := []) (ci := 12) (q0 := 0) hx hb hml hown hg hP hD hK hS hA hnw hgk (s_hasWordA l D ks H.size ad kk V316 L 17 (bq) (gn) (gT) (gs) (gl) hMV316 (by decide) rl320) w2051 w2053 w90 w172 w2054 rfl rfl hdV_yX12_hasWord ⟨(by show 1 + 1 ≤ 10 * dd + 15; omega), (by show 8 + (3 + 11) + (21) ≤ 300 * dd + 500; omega)⟩ rfl hl.1 rfl (Nat.le_of_ble_eq_true rfl) dX12_partWithin_182 ⟨Nat.le_of_ble_eq_true rfl, Nat.le_of_ble_eq_true rfl⟩) hP hD hK hS hA (fun z395 u396 H locs w397 hP hD hK hS => ?_)
                        obtain ⟨V399, L400⟩ := u396
                        obtain ⟨hMV399, ajV399, axL400, rgz395, t398⟩ := w397
                        have axL400 : L = L400 := Eq.symm axL400
                        subst axL400
                        have hP : va_P D vwCl (mw ad kk ks.1 V399 L) H := hP
                        have hD : va_D A (mw ad kk ks.1 V399 L) := hD
                        have hMV399 : rgd bM V399 := hMV399
                        have ajV399 : agr [(0, 7)] [] V316 V399 := ajV399
                        have agV399 : agr [(0, 7), (0, 8), (0, 48), (0, 50)] [35, 36, 37, 38, 45, 46, 47] V V399 := agV316.tr ajV399 (by decide) (by decide)
                        have rgz395 : 0 ≤ z395.toInt ∧ z395.toInt ≤ 1 := rgz395
                        have t398 : (z395.toInt = 1 ∧ (gT).1 ((gs).1 0) = 128 + (Int32.toInt 17) ∧ RelM V399 L (bq) (gn) (gT) (nx (gs) 1) (gl)) ∨ (z395.toInt = 0 ∧ (gT).1 ((gs).1 0) ≠ 128 + (Int32.toInt 17) ∧ RelM V399 L (bq) (gn) (gT) (gs) (gl)) := t398
                        rcases t398 with ⟨q401, h402, rl403⟩ | ⟨q401, h402, rl403⟩
                        · skip
                          have kd404 : gT.1 (gs.1 0) = 145 := h402.trans (by decide)
                          have ps405 : (nx gs 1).1 0 = gs.1 0 + 1 := rfl
                          have fz406 := RelM.rg rl403
                          have pq407 : (V399 0 8).toInt = ((V 0 8)).toInt := congrArg Int32.toInt ((ajV399 0 8 rfl).trans ((ajV316 0 8 rfl).trans ((ajV216 0 8 rfl).trans ((ajV174 0 8 rfl).trans ((ajV93 0 8 rfl).trans (ajV11 0 8 rfl))))))
                          refine lv_if_eq (tgt := 195) hx hb dX12_partWithin_185 (by decide) (fun c408 => ?_) (fun c408 => ?_)
                          · skip
                            have f409 : z395.toInt = 0 := b_eq rfl (by decide) c408
                            exfalso; omega
                          · skip
                            have f410 : z395.toInt ≠ 0 := b_neq rfl (by decide) c408
                            have hr411 : ∀ k, Rc gT (Crun gs (Ipart gd :: k)) (Crun gs (Ipart gd :: k)) := fun k => Rc.rf
                            have hr412 : ∀ k, Rc gT (Crun gs (Ipart gd :: k)) (Crun (nx gs 1) (Itake 40 :: Iexpr (gd + 1) :: Itake 44 :: Iexpr (gd + 1) :: Itake 44 :: Iexpr (gd + 1) :: Itake 41 :: k)) := fun k => Rc.go1 (hr411 k) (pw_145 gd bg (by omega) kd404)
                            refine lv_aload_n hx hb dX12_partWithin_188 rfl (lv_at hl 0 rfl) ?_
                            have pq413 : (V399 0 48).toInt = ((V 0 48)).toInt := congrArg Int32.toInt ((ajV399 0 48 rfl).trans ((ajV316 0 48 rfl).trans ((ajV216 0 48 rfl).trans ((ajV174 0 48 rfl).trans ((ajV93 0 48 rfl).trans (ajV11 0 48 rfl))))))
                            have pq414 : (V399 0 50).toInt = ((V 0 50)).toInt := congrArg Int32.toInt ((ajV399 0 50 rfl).trans ((ajV316 0 50 rfl).trans ((ajV216 0 50 rfl).trans ((ajV174 0 50 rfl).trans ((ajV93 0 50 rfl).trans (ajV11 0 50 rfl))))))
                            refine gA_void (gA_runV (As := []) (rest := []) (ci := 12) (q0 := 0) hx hb hml hown hg hP hD hK hS hA hnw hgk (hk_s_pickA H.size ad kk V399 L (bq) (gn) (gT) ((nx gs 1)) (gl) ((gd + 1)) hMV399 rl403 (show (V399 0 48).toInt ≤ 2 * (V399 0 7).toInt from by omega) (show (V399 0 50).toInt = (((gd + 1)) : Int) from by omega) (show (V399 0 50).toInt + (dd : Int) = 8 from by omega) (EM.mv em ((ajV399 0 51 rfl).trans ((ajV316 0 51 rfl).trans ((ajV216 0 51 rfl).trans ((ajV174 0 51 rfl).trans ((ajV93 0 51 rfl).trans (ajV11 0 51 rfl)))))) ((ajV399 0 52 rfl).trans ((ajV316 0 52 rfl).trans ((ajV216 0 52 rfl).trans ((ajV174 0 52 rfl).trans ((ajV93 0 52 rfl).trans (ajV11 0 52 rfl)))))) (by rw [(funext (fun q => ajV399 27 q rfl) : V399 27 = V316 27), (funext (fun q => ajV316 27 q rfl) : V316 27 = V216 27), (funext (fun q => ajV216 27 q rfl) : V216 27 = V174 27), (funext (fun q => ajV174 27 q rfl) : V174 27 = V93 27), (funext (fun q => ajV93 27 q rfl) : V93 27 = V11 27), (funext (fun q => ajV11 27 q rfl) : V11 27 = V 27)] : V399 27 = V 27) ((keepS.tr (keepS.rf : keepS gs 0 gs) (keepS.n1 1))).2.1)) w2144 w2146 w113 w172 w2147 rfl rfl hdV_yX12_pick ⟨(by show 10 * dd + 14 + 1 ≤ 10 * dd + 15; omega), (by show 8 + (3 + 11) + (300 * dd + 460) ≤ 300 * dd + 500; omega)⟩ rfl hl.1 rfl (Nat.le_of_ble_eq_true rfl) dX12_partWithin_189 ⟨Nat.le_of_ble_eq_true rfl, Nat.le_of_ble_eq_true rfl⟩) hP hD hK hS hA (fun u416 H locs w417 hP hD hK hS => ?_)
                            obtain ⟨V423, L424⟩ := u416
                            obtain ⟨hMV423, ajV423, axL424, t418, t419, t420, t421, t422⟩ := w417
                            have alL424 : agL [35, 36, 37, 38, 45, 46, 47] L L424 := agL.tr alL axL424 (by decide)
                            have hP : va_P D vwCl (mw ad kk ks.1 V423 L424) H := hP
                            have hD : va_D A (mw ad kk ks.1 V423 L424) := hD
                            have hMV423 : rgd bM V423 := hMV423
                            have ajV423 : agr [(0, 7), (0, 8), (0, 48), (0, 50)] [35, 36, 37, 38, 45, 46, 47] V399 V423 := ajV423
                            have agV423 : agr [(0, 7), (0, 8), (0, 48), (0, 50)] [35, 36, 37, 38, 45, 46, 47] V V423 := agV399.tr ajV423 (by decide) (by decide)
                            have t418 : Imp ((V423 0 8).toInt = 0) ((V423 0 48).toInt - (V399 0 48).toInt ≤ 2 * ((V423 0 7).toInt - (V399 0 7).toInt)) := t418
                            have t419 : (V423 0 48).toInt ≤ 8053 - 6 * (V399 0 50).toInt := t419
                            have t420 : (V423 0 50).toInt = (V399 0 50).toInt := t420
                            have t421 : (V399 0 48).toInt ≤ (V423 0 48).toInt := t421
                            have t422 : RdM (gT) ((nx gs 1)) (fun k => Itake 40 :: Iexpr ((gd + 1)) :: Itake 44 :: Iexpr ((gd + 1)) :: Itake 44 :: Iexpr ((gd + 1)) :: Itake 41 :: k) (fun k => k) (V423 0 8).toInt (fun s9 => RelM V423 L424 (bq) (gn) (gT) s9 (gl) ∧ keepS ((nx gs 1)) 1 s9) := t422
                            have r425 : 0 ≤ ((V423 0 48)).toInt ∧ ((V423 0 48)).toInt ≤ 10000 := hMV423 0 48
                            have r426 : 0 ≤ ((V423 0 8)).toInt ∧ ((V423 0 8)).toInt ≤ 70000 := hMV423 0 8
                            have r427 : 0 ≤ ((V423 0 50)).toInt ∧ ((V423 0 50)).toInt ≤ 9 := hMV423 0 50
                            rcases t422 with ⟨q428, sx429, h430, rl431, kp432⟩ | ⟨q428, h430⟩
                            · skip
                              have hr433 : ∀ k, Rc gT (Crun gs (Ipart gd :: k)) (Crun sx429 (k)) := fun k => (hr412 k).tr (h430 (k))
                              have fz434 := RelM.rg rl431
                              have ps435 := (kp432).1
                              refine lv_goto (tgt := 275) hx hb dX12_partWithin_192 (by decide) ?_
                              exact W.vret hx hb hr (fun t ht hW => ⟨⟨(V423, L424), rfl, ⟨hMV423, agV423, alL424, (Imp.mk (fun hp => have hp : (V423 0 8).toInt = 0 := hp; (show (V423 0 48).toInt - (V 0 48).toInt + 1 ≤ 2 * ((V423 0 7).toInt - (V 0 7).toInt) from by first | omega | ((try (have i_t418 := Imp.go t418 (by omega))); omega)))), (show (V423 0 48).toInt ≤ 8054 - 6 * (V 0 50).toInt from by first | omega | ((try (have i_t418 := Imp.go t418 (by omega))); omega)), (show (V423 0 50).toInt = (V 0 50).toInt from by first | omega | ((try (have i_t418 := Imp.go t418 (by omega))); omega)), (show (V 0 48).toInt ≤ (V423 0 48).toInt from by first | omega | ((try (have i_t418 := Imp.go t418 (by omega))); omega)), (Or.inl ⟨W0 rl431, sx429, hr433, rl431, keepS.le (keepS.tr (keepS.tr (keepS.rf : keepS gs 0 gs) (keepS.n1 1)) kp432) (by decide)⟩)⟩, by rw [ht]; exact hP, va_K.moved hW.alike hK, hD⟩, hS.F ht⟩) hS.2.2 dX12_partWithin_275
                            · skip
                              have hb436 : ∀ k, Rc gT (Crun gs (Ipart gd :: k)) (Cbad (V423 0 8).toInt) := fun k => (hr412 k).tr (h430 (k))
                              refine lv_goto (tgt := 275) hx hb dX12_partWithin_192 (by decide) ?_
                              exact W.vret hx hb hr (fun t ht hW => ⟨⟨(V423, L424), rfl, ⟨hMV423, agV423, alL424, (Imp.mk (fun hp => have hp : (V423 0 8).toInt = 0 := hp; (show (V423 0 48).toInt - (V 0 48).toInt + 1 ≤ 2 * ((V423 0 7).toInt - (V 0 7).toInt) from by first | omega | ((try (have i_t418 := Imp.go t418 (by omega))); omega)))), (show (V423 0 48).toInt ≤ 8054 - 6 * (V 0 50).toInt from by first | omega | ((try (have i_t418 := Imp.go t418 (by omega))); omega)), (show (V423 0 50).toInt = (V 0 50).toInt from by first | omega | ((try (have i_t418 := Imp.go t418 (by omega))); omega)), (show (V 0 48).toInt ≤ (V423 0 48).toInt from by first | omega | ((try (have i_t418 := Imp.go t418 (by omega))); omega)), (Or.inr ⟨(show 1 ≤ (V423 0 8).toInt from by omega), hb436⟩)⟩, by rw [ht]; exact hP, va_K.moved hW.alike hK, hD⟩, hS.F ht⟩) hS.2.2 dX12_partWithin_275
                        · skip
                          have kd437 : gT.1 (gs.1 0) ≠ 145 := fun h9 => h402 (h9.trans (by decide))
                          have fz438 := RelM.rg rl403
                          have pq439 : (V399 0 8).toInt = ((V 0 8)).toInt := congrArg Int32.toInt ((ajV399 0 8 rfl).trans ((ajV316 0 8 rfl).trans ((ajV216 0 8 rfl).trans ((ajV174 0 8 rfl).trans ((ajV93 0 8 rfl).trans (ajV11 0 8 rfl))))))
                          refine lv_if_eq (tgt := 195) hx hb dX12_partWithin_185 (by decide) (fun c440 => ?_) (fun c440 => ?_)
                          · skip
                            have f441 : z395.toInt = 0 := b_eq rfl (by decide) c440
                            refine lv_aload_n hx hb dX12_partWithin_195 rfl (lv_at hl 0 rfl) ?_
                            refine lv_bipush (v := 18) hx hb dX12_partWithin_196 (by decide) ?_
                            have r442 : Int32.toInt 18 = 18 := by decide
                            refine gA_int (gA_runV (As := [.int 18]) (rest := []) (ci := 12) (q0 := 0) hx hb hml hown hg hP hD hK hS hA hnw hgk (s_hasWordA l D ks H.size ad kk V399 L 18 (bq) (gn) (gT) (gs) (gl) hMV399 (by decide) rl403) w2051 w2053 w90 w172 w2054 rfl rfl hdV_yX12_hasWord ⟨(by show 1 + 1 ≤ 10 * dd + 15; omega), (by show 8 + (3 + 11) + (21) ≤ 300 * dd + 500; omega)⟩ rfl hl.1 rfl (Nat.le_of_ble_eq_true rfl) dX12_partWithin_198 ⟨Nat.le_of_ble_eq_true rfl, Nat.le_of_ble_eq_true rfl⟩) hP hD hK hS hA (fun z443 u444 H locs w445 hP hD hK hS => ?_)
                            obtain ⟨V447, L448⟩ := u444
                            obtain ⟨hMV447, ajV447, axL448, rgz443, t446⟩ := w445
                            have axL448 : L = L448 := Eq.symm axL448
                            subst axL448
                            have hP : va_P D vwCl (mw ad kk ks.1 V447 L) H := hP
                            have hD : va_D A (mw ad kk ks.1 V447 L) := hD
                            have hMV447 : rgd bM V447 := hMV447
                            have ajV447 : agr [(0, 7)] [] V399 V447 := ajV447
                            have agV447 : agr [(0, 7), (0, 8), (0, 48), (0, 50)] [35, 36, 37, 38, 45, 46, 47] V V447 := agV399.tr ajV447 (by decide) (by decide)
                            have rgz443 : 0 ≤ z443.toInt ∧ z443.toInt ≤ 1 := rgz443
                            have t446 : (z443.toInt = 1 ∧ (gT).1 ((gs).1 0) = 128 + (Int32.toInt 18) ∧ RelM V447 L (bq) (gn) (gT) (nx (gs) 1) (gl)) ∨ (z443.toInt = 0 ∧ (gT).1 ((gs).1 0) ≠ 128 + (Int32.toInt 18) ∧ RelM V447 L (bq) (gn) (gT) (gs) (gl)) := t446
                            rcases t446 with ⟨q449, h450, rl451⟩ | ⟨q449, h450, rl451⟩
                            · skip
                              have kd452 : gT.1 (gs.1 0) = 146 := h450.trans (by decide)
                              have ps453 : (nx gs 1).1 0 = gs.1 0 + 1 := rfl
                              have fz454 := RelM.rg rl451
                              have pq455 : (V447 0 8).toInt = ((V 0 8)).toInt := congrArg Int32.toInt ((ajV447 0 8 rfl).trans ((ajV399 0 8 rfl).trans ((ajV316 0 8 rfl).trans ((ajV216 0 8 rfl).trans ((ajV174 0 8 rfl).trans ((ajV93 0 8 rfl).trans (ajV11 0 8 rfl)))))))
                              refine lv_if_eq (tgt := 256) hx hb dX12_partWithin_201 (by decide) (fun c456 => ?_) (fun c456 => ?_)
                              · skip
                                have f457 : z443.toInt = 0 := b_eq rfl (by decide) c456
                                exfalso; omega
                              · skip
                                have f458 : z443.toInt ≠ 0 := b_neq rfl (by decide) c456
                                have w146 := bg_146 bg kd452
                                have of6 := EM.of em w146
                                have pq459 : (V447 0 51).toInt = ((V 0 51)).toInt := congrArg Int32.toInt ((ajV447 0 51 rfl).trans ((ajV399 0 51 rfl).trans ((ajV316 0 51 rfl).trans ((ajV216 0 51 rfl).trans ((ajV174 0 51 rfl).trans ((ajV93 0 51 rfl).trans (ajV11 0 51 rfl)))))))
                                have r460 : (-1) ≤ ((V 0 51)).toInt ∧ ((V 0 51)).toInt ≤ 47 := hMV 0 51
                                have hr461 : ∀ k, Rc gT (Crun gs (Ipart gd :: k)) (Crun gs (Ipart gd :: k)) := fun k => Rc.rf
                                have hr462 : ∀ k, Rc gT (Crun gs (Ipart gd :: k)) (Crun (nx gs 1) (Inum 0 (((gs.1 1 : Nat) : Int) - 1) :: Itake 46 :: Imeth :: Itake 40 :: Iexpr (gd + 1) :: Itake 41 :: k)) := fun k => Rc.go1 (hr461 k) (pw_146 gd bg (by omega) kd452)
                                refine lv_aload_n hx hb dX12_partWithin_204 rfl (lv_at hl 0 rfl) ?_
                                refine lv_iconst (v := 0) hx hb dX12_partWithin_205 (by decide) ?_
                                refine lv_aload_n hx hb dX12_partWithin_206 rfl (lv_at hl 0 rfl) ?_
                                refine va_get (D := D) (ci := 12) (v := .ref (ad 27)) (C := RX12) (T := TX12) (N := 100) hx hb hg inX12 hown hK hP 0 rfl rfl 27 (by decide) (hg _ w1733) (fun _ h9 => h9) rfl dX12_partWithin_207 ?_
                                refine lv_aload_n hx hb dX12_partWithin_210 rfl (lv_at hl 0 rfl) ?_
                                refine va_get (D := D) (ci := 12) (v := .int (V447 0 51)) (C := RX12) (T := TX12) (N := 100) hx hb hg inX12 hown hK hP 0 rfl rfl 51 (by decide) (hg _ w1757) (fun _ h9 => h9) rfl dX12_partWithin_211 ?_
                                refine g_top (v := (V 0 51)) ((ajV447 0 51 rfl).trans ((ajV399 0 51 rfl).trans ((ajV316 0 51 rfl).trans ((ajV216 0 51 rfl).trans ((ajV174 0 51 rfl).trans ((ajV93 0 51 rfl).trans (ajV11 0 51 rfl))))))) ?_
                                refine va_iald (D := D) (i := (V 0 51)) hx hb hK hP 20 19 rfl rfl (i_in (a := ((V 0 51)).toInt) rfl (by omega)) dX12_partWithin_214 ?_
                                refine g_top (v := (V 27 (Int32.toNatClampNeg (V 0 51)))) ((ajV447 27 (Int32.toNatClampNeg (V 0 51)) rfl).trans ((ajV399 27 (Int32.toNatClampNeg (V 0 51)) rfl).trans ((ajV316 27 (Int32.toNatClampNeg (V 0 51)) rfl).trans ((ajV216 27 (Int32.toNatClampNeg (V 0 51)) rfl).trans ((ajV174 27 (Int32.toNatClampNeg (V 0 51)) rfl).trans ((ajV93 27 (Int32.toNatClampNeg (V 0 51)) rfl).trans (ajV11 27 (Int32.toNatClampNeg (V 0 51)) rfl))))))) ?_
                                have r463 : 0 ≤ ((V 27 (Int32.toNatClampNeg (V 0 51)))).toInt ∧ ((V 27 (Int32.toNatClampNeg (V 0 51)))).toInt ≤ 8 := hMV 27 (Int32.toNatClampNeg (V 0 51))
                                refine lv_iconst (v := 1) hx hb dX12_partWithin_215 (by decide) ?_
                                refine lv_isub hx hb dX12_partWithin_216 ?_
                                refine lv_topi (fun z464 ez464 => ?_)
                                have hz464 : z464.toInt = ((V 27 (Int32.toNatClampNeg (V 0 51)))).toInt - 1 := i_sub ez464 rfl (by decide) (by omega)
                                have r465 : Int32.toInt 0 = 0 := by decide
                                refine gA_int (gA_runV (As := [.int 0, .int z464]) (rest := []) (ci := 12) (q0 := 0) hx hb hml hown hg hP hD hK hS hA hnw hgk (s_takeNumberA l D ks H.size ad kk V447 L 0 z464 (bq) (gn) (gT) ((nx gs 1)) (gl) hMV447 rl451 (show -1 ≤ z464.toInt ∧ z464.toInt ≤ 999999999 from by omega) (show 0 ≤ (Int32.toInt 0) from by omega)) w2084 w2086 w98 w172 w2087 rfl rfl hdV_yX12_takeNumber ⟨(by show 1 + 1 ≤ 10 * dd + 15; omega), (by show 8 + (3 + 11) + (21) ≤ 300 * dd + 500; omega)⟩ rfl hl.1 rfl (Nat.le_of_ble_eq_true rfl) dX12_partWithin_217 ⟨Nat.le_of_ble_eq_true rfl, Nat.le_of_ble_eq_true rfl⟩) hP hD hK hS hA (fun z466 u467 H locs w468 hP hD hK hS => ?_)
                                obtain ⟨V472, L473⟩ := u467
                                obtain ⟨hMV472, ajV472, axL473, t469, t470, t471⟩ := w468
                                have axL473 : L = L473 := Eq.symm axL473
                                subst axL473
                                have hP : va_P D vwCl (mw ad kk ks.1 V472 L) H := hP
                                have hD : va_D A (mw ad kk ks.1 V472 L) := hD
                                have hMV472 : rgd bM V472 := hMV472
                                have ajV472 : agr [(0, 7), (0, 8)] [] V447 V472 := ajV472
                                have agV472 : agr [(0, 7), (0, 8), (0, 48), (0, 50)] [35, 36, 37, 38, 45, 46, 47] V V472 := agV447.tr ajV472 (by decide) (by decide)
                                have t469 : ((V472 0 8).toInt = 0 ∧ (gT).1 (((nx gs 1)).1 0) = 2 ∧ (Int32.toInt 0) ≤ ((gT).2.1 (((nx gs 1)).1 0)).toInt ∧ ((gT).2.1 (((nx gs 1)).1 0)).toInt ≤ z464.toInt ∧ RelM V472 L (bq) (gn) (gT) (nx ((nx gs 1)) 1) (gl)) ∨ (1 ≤ (V472 0 8).toInt ∧ (((gT).1 (((nx gs 1)).1 0) ≠ 2 ∧ (V472 0 8).toInt = 1 + 16 * (gT).2.2 (((nx gs 1)).1 0)) ∨ ((gT).1 (((nx gs 1)).1 0) = 2 ∧ (((gT).2.1 (((nx gs 1)).1 0)).toInt < (Int32.toInt 0) ∨ z464.toInt < ((gT).2.1 (((nx gs 1)).1 0)).toInt) ∧ (V472 0 8).toInt = 4 + 16 * (gT).2.2 (((nx gs 1)).1 0)))) := t469
                                have t470 : Imp ((V472 0 8).toInt = 0) ((Int32.toInt 0) ≤ z466.toInt ∧ z466.toInt ≤ z464.toInt) := t470
                                have t471 : Imp (1 ≤ (V472 0 8).toInt) (z466.toInt = 0) := t471
                                have r474 : 0 ≤ ((V472 0 8)).toInt ∧ ((V472 0 8)).toInt ≤ 70000 := hMV472 0 8
                                rcases t469 with ⟨q475, h476, h477, h478, rl479⟩ | ⟨q475, ⟨h476, rl479⟩ | ⟨h476, h477, rl479⟩⟩
                                · skip
                                  have hr480 : ∀ k, Rc gT (Crun gs (Ipart gd :: k)) (Crun (nx (nx gs 1) 1) (Itake 46 :: Imeth :: Itake 40 :: Iexpr (gd + 1) :: Itake 41 :: k)) := fun k => Rc.go1 (hr462 k) (nm_y h476 (by omega) (by omega))
                                  have ps481 : (nx (nx gs 1) 1).1 0 = (nx gs 1).1 0 + 1 := rfl
                                  have fz482 := RelM.rg rl479
                                  have nr483 := Imp.go t470 q475
                                  refine lv_istore_n (lv' := [(2, .int z466), (0, .ref (ad 0))]) hx hb dX12_partWithin_220 rfl hl (by decide) rfl (fun ls hl => ?_)
                                  refine lv_aload_n hx hb dX12_partWithin_221 rfl (lv_at hl 1 rfl) ?_
                                  refine lv_bipush (v := 46) hx hb dX12_partWithin_222 (by decide) ?_
                                  have r484 : Int32.toInt 46 = 46 := by decide
                                  refine gA_void (gA_runV (As := [.int 46]) (rest := []) (ci := 12) (q0 := 0) hx hb hml hown hg hP hD hK hS hA hnw hgk (s_takeSignA l D ks H.size ad kk V472 L 46 (bq) (gn) (gT) ((nx (nx gs 1) 1)) (gl) hMV472 rl479 (sg_yes (j := 46) (by decide) (by decide) (by decide))) w2075 w2077 w96 w172 w2078 rfl rfl hdV_yX12_takeSign ⟨(by show 1 + 1 ≤ 10 * dd + 15; omega), (by show 8 + (2 + 11) + (21) ≤ 300 * dd + 500; omega)⟩ rfl hl.1 rfl (Nat.le_of_ble_eq_true rfl) dX12_partWithin_224 ⟨Nat.le_of_ble_eq_true rfl, Nat.le_of_ble_eq_true rfl⟩) hP hD hK hS hA (fun u486 H locs w487 hP hD hK hS => ?_)
                                  obtain ⟨V489, L490⟩ := u486
                                  obtain ⟨hMV489, ajV489, axL490, t488⟩ := w487
                                  have axL490 : L = L490 := Eq.symm axL490
                                  subst axL490
                                  have hP : va_P D vwCl (mw ad kk ks.1 V489 L) H := hP
                                  have hD : va_D A (mw ad kk ks.1 V489 L) := hD
                                  have hMV489 : rgd bM V489 := hMV489
                                  have ajV489 : agr [(0, 7), (0, 8)] [] V472 V489 := ajV489
                                  have agV489 : agr [(0, 7), (0, 8), (0, 48), (0, 50)] [35, 36, 37, 38, 45, 46, 47] V V489 := agV472.tr ajV489 (by decide) (by decide)
                                  have t488 : ((V489 0 8).toInt = 0 ∧ (gT).1 (((nx (nx gs 1) 1)).1 0) = (Int32.toInt 46) ∧ RelM V489 L (bq) (gn) (gT) (nx ((nx (nx gs 1) 1)) 1) (gl)) ∨ (1 ≤ (V489 0 8).toInt ∧ (gT).1 (((nx (nx gs 1) 1)).1 0) ≠ (Int32.toInt 46) ∧ (V489 0 8).toInt = 1 + 16 * (gT).2.2 (((nx (nx gs 1) 1)).1 0)) := t488
                                  rcases t488 with ⟨q491, h492, rl493⟩ | ⟨q491, h492, rl493⟩
                                  · skip
                                    have kd494 : gT.1 ((nx (nx gs 1) 1).1 0) = 46 := h492.trans (by decide)
                                    have hr495 : ∀ k, Rc gT (Crun gs (Ipart gd :: k)) (Crun (nx (nx (nx gs 1) 1) 1) (Imeth :: Itake 40 :: Iexpr (gd + 1) :: Itake 41 :: k)) := fun k => Rc.go1 (hr480 k) (tk_y kd494)
                                    have ps496 : (nx (nx (nx gs 1) 1) 1).1 0 = (nx (nx gs 1) 1).1 0 + 1 := rfl
                                    have fz497 := RelM.rg rl493
                                    have r498 : 0 ≤ ((V489 0 8)).toInt ∧ ((V489 0 8)).toInt ≤ 70000 := hMV489 0 8
                                    refine lv_aload_n hx hb dX12_partWithin_227 rfl (lv_at hl 1 rfl) ?_
                                    refine lv_aload_n hx hb dX12_partWithin_228 rfl (lv_at hl 1 rfl) ?_
                                    refine va_get (D := D) (ci := 12) (v := .ref (ad 36)) (C := RX12) (T := TX12) (N := 100) hx hb hg inX12 hown hK hP 0 rfl rfl 36 (by decide) (hg _ w1742) (fun _ h9 => h9) rfl dX12_partWithin_229 ?_
                                    refine lv_aload_n hx hb dX12_partWithin_232 rfl (lv_at hl 1 rfl) ?_
                                    refine va_get (D := D) (ci := 12) (v := .ref (ad 35)) (C := RX12) (T := TX12) (N := 100) hx hb hg inX12 hown hK hP 0 rfl rfl 35 (by decide) (hg _ w1741) (fun _ h9 => h9) rfl dX12_partWithin_233 ?_
                                    refine gA_int (gA_runV (As := [.ref (ad 36), .ref (ad 35)]) (rest := []) (ci := 12) (q0 := 0) hx hb hml hown hg hP hD hK hS hA hnw hgk (s_takeWordOf3 l D ks H.size ad kk V489 L (bq) (gn) (gT) ((nx (nx (nx gs 1) 1) 1)) (gl) hMV489 rl493) w2100 w2102 w102 w172 w2103 rfl rfl hdV_yX12_takeWordOf ⟨(by show 1 + 1 ≤ 10 * dd + 15; omega), (by show 8 + (4 + 11) + (27) ≤ 300 * dd + 500; omega)⟩ rfl hl.1 rfl (Nat.le_of_ble_eq_true rfl) dX12_partWithin_236 ⟨Nat.le_of_ble_eq_true rfl, Nat.le_of_ble_eq_true rfl⟩) hP hD hK hS hA (fun z499 u500 H locs w501 hP hD hK hS => ?_)
                                    obtain ⟨V503, L504⟩ := u500
                                    obtain ⟨hMV503, ajV503, axL504, rgz499, t502⟩ := w501
                                    have alL504 : agL [35, 36, 37, 38, 45, 46, 47] L L504 := agL.tr alL axL504 (by decide)
                                    have hP : va_P D vwCl (mw ad kk ks.1 V503 L504) H := hP
                                    have hD : va_D A (mw ad kk ks.1 V503 L504) := hD
                                    have hMV503 : rgd bM V503 := hMV503
                                    have ajV503 : agr [(0, 7), (0, 8)] [35, 36, 37, 38] V489 V503 := ajV503
                                    have agV503 : agr [(0, 7), (0, 8), (0, 48), (0, 50)] [35, 36, 37, 38, 45, 46, 47] V V503 := agV489.tr ajV503 (by decide) (by decide)
                                    have rgz499 : (-1) ≤ z499.toInt ∧ z499.toInt ≤ 19 := rgz499
                                    have t502 : KmS (mthW (gT) ((nx (nx (nx gs 1) 1) 1)) 3) (V503 0 8).toInt (fun x9 => RelM V503 L504 (bq) (gn) (gT) x9.2 (gl) ∧ z499.toInt = ((x9.1 : Nat) : Int) ∧ x9.1 < 20 ∧ keepS ((nx (nx (nx gs 1) 1) 1)) 1 x9.2 ∧ MTX (gT) ((nx (nx (nx gs 1) 1) 1)) 3 x9) := t502
                                    rcases t502 with ⟨q505, mx506, h507, rl508, hf509, hb510, kp511, mt512⟩ | ⟨q505, h507⟩
                                    · skip
                                      have ps513 := kp511.1
                                      have hr514 : ∀ k, Rc gT (Crun gs (Ipart gd :: k)) (Crun mx506.2 (Itake 40 :: Iexpr (gd + 1) :: Itake 41 :: k)) := fun k => Rc.go1 (hr495 k) (me_y h507)
                                      have fz515 := RelM.rg rl508
                                      have r516 : 0 ≤ ((V503 0 8)).toInt ∧ ((V503 0 8)).toInt ≤ 70000 := hMV503 0 8
                                      refine lv_istore_n (lv' := [(3, .int z499), (2, .int z466), (0, .ref (ad 0))]) hx hb dX12_partWithin_239 rfl hl (by decide) rfl (fun ls hl => ?_)
                                      refine lv_aload_n hx hb dX12_partWithin_240 rfl (lv_at hl 2 rfl) ?_
                                      have pq517 : (V503 0 48).toInt = ((V 0 48)).toInt := congrArg Int32.toInt ((ajV503 0 48 rfl).trans ((ajV489 0 48 rfl).trans ((ajV472 0 48 rfl).trans ((ajV447 0 48 rfl).trans ((ajV399 0 48 rfl).trans ((ajV316 0 48 rfl).trans ((ajV216 0 48 rfl).trans ((ajV174 0 48 rfl).trans ((ajV93 0 48 rfl).trans (ajV11 0 48 rfl))))))))))
                                      have pq518 : (V503 0 50).toInt = ((V 0 50)).toInt := congrArg Int32.toInt ((ajV503 0 50 rfl).trans ((ajV489 0 50 rfl).trans ((ajV472 0 50 rfl).trans ((ajV447 0 50 rfl).trans ((ajV399 0 50 rfl).trans ((ajV316 0 50 rfl).trans ((ajV216 0 50 rfl).trans ((ajV174 0 50 rfl).trans ((ajV93 0 50 rfl).trans (ajV11 0 50 rfl))))))))))
                                      refine gA_void (gA_runV (As := []) (rest := []) (ci := 12) (q0 := 0) hx hb hml hown hg hP hD hK hS hA hnw hgk (hk_s_bracketedA H.size ad kk V503 L504 (bq) (gn) (gT) (mx506.2) (gl) ((gd + 1)) hMV503 rl508 (show (V503 0 48).toInt ≤ 2 * (V503 0 7).toInt from by first | omega | ((try (have i_t471 := Imp.go t471 (by omega))); (try (have i_t470 := Imp.go t470 (by omega))); (try (have i_t470 := Imp.go t470 (by omega))); (try (have i_t471 := Imp.go t471 (by omega))); omega)) (show (V503 0 50).toInt = (((gd + 1)) : Int) from by first | omega | ((try (have i_t471 := Imp.go t471 (by omega))); (try (have i_t470 := Imp.go t470 (by omega))); (try (have i_t470 := Imp.go t470 (by omega))); (try (have i_t471 := Imp.go t471 (by omega))); omega)) (show (V503 0 50).toInt + (dd : Int) = 8 from by first | omega | ((try (have i_t471 := Imp.go t471 (by omega))); (try (have i_t470 := Imp.go t470 (by omega))); (try (have i_t470 := Imp.go t470 (by omega))); (try (have i_t471 := Imp.go t471 (by omega))); omega)) (EM.mv em ((ajV503 0 51 rfl).trans ((ajV489 0 51 rfl).trans ((ajV472 0 51 rfl).trans ((ajV447 0 51 rfl).trans ((ajV399 0 51 rfl).trans ((ajV316 0 51 rfl).trans ((ajV216 0 51 rfl).trans ((ajV174 0 51 rfl).trans ((ajV93 0 51 rfl).trans (ajV11 0 51 rfl)))))))))) ((ajV503 0 52 rfl).trans ((ajV489 0 52 rfl).trans ((ajV472 0 52 rfl).trans ((ajV447 0 52 rfl).trans ((ajV399 0 52 rfl).trans ((ajV316 0 52 rfl).trans ((ajV216 0 52 rfl).trans ((ajV174 0 52 rfl).trans ((ajV93 0 52 rfl).trans (ajV11 0 52 rfl)))))))))) (by rw [(funext (fun q => ajV503 27 q rfl) : V503 27 = V489 27), (funext (fun q => ajV489 27 q rfl) : V489 27 = V472 27), (funext (fun q => ajV472 27 q rfl) : V472 27 = V447 27), (funext (fun q => ajV447 27 q rfl) : V447 27 = V399 27), (funext (fun q => ajV399 27 q rfl) : V399 27 = V316 27), (funext (fun q => ajV316 27 q rfl) : V316 27 = V216 27), (funext (fun q => ajV216 27 q rfl) : V216 27 = V174 27), (funext (fun q => ajV174 27 q rfl) : V174 27 = V93 27), (funext (fun q => ajV93 27 q rfl) : V93 27 = V11 27), (funext (fun q => ajV11 27 q rfl) : V11 27 = V 27)] : V503 27 = V 27) ((keepS.tr (keepS.tr (keepS.tr (keepS.tr (keepS.rf : keepS gs 0 gs) (keepS.n1 1)) (keepS.n1 1)) (keepS.n1 1)) kp511)).2.1)) w2148 w2150 w114 w172 w2151 rfl rfl hdV_yX12_bracketed ⟨(by show 10 * dd + 14 + 1 ≤ 10 * dd + 15; omega), (by show 8 + (1 + 11) + (300 * dd + 460) ≤ 300 * dd + 500; omega)⟩ rfl hl.1 rfl (Nat.le_of_ble_eq_true rfl) dX12_partWithin_241 ⟨Nat.le_of_ble_eq_true rfl, Nat.le_of_ble_eq_true rfl⟩) hP hD hK hS hA (fun u520 H locs w521 hP hD hK hS => ?_)
                                      obtain ⟨V527, L528⟩ := u520
                                      obtain ⟨hMV527, ajV527, axL528, t522, t523, t524, t525, t526⟩ := w521
                                      have alL528 : agL [35, 36, 37, 38, 45, 46, 47] L L528 := agL.tr alL504 axL528 (by decide)
                                      have hP : va_P D vwCl (mw ad kk ks.1 V527 L528) H := hP
                                      have hD : va_D A (mw ad kk ks.1 V527 L528) := hD
                                      have hMV527 : rgd bM V527 := hMV527
                                      have ajV527 : agr [(0, 7), (0, 8), (0, 48), (0, 50)] [35, 36, 37, 38, 45, 46, 47] V503 V527 := ajV527
                                      have agV527 : agr [(0, 7), (0, 8), (0, 48), (0, 50)] [35, 36, 37, 38, 45, 46, 47] V V527 := agV503.tr ajV527 (by decide) (by decide)
                                      have t522 : Imp ((V527 0 8).toInt = 0) ((V527 0 48).toInt - (V503 0 48).toInt ≤ 2 * ((V527 0 7).toInt - (V503 0 7).toInt)) := t522
                                      have t523 : (V527 0 48).toInt ≤ 8052 - 6 * (V503 0 50).toInt := t523
                                      have t524 : (V527 0 50).toInt = (V503 0 50).toInt := t524
                                      have t525 : (V503 0 48).toInt ≤ (V527 0 48).toInt := t525
                                      have t526 : RdM (gT) (mx506.2) (fun k => Itake 40 :: Iexpr ((gd + 1)) :: Itake 41 :: k) (fun k => k) (V527 0 8).toInt (fun s9 => RelM V527 L528 (bq) (gn) (gT) s9 (gl) ∧ keepS (mx506.2) 1 s9) := t526
                                      have r529 : 0 ≤ ((V527 0 48)).toInt ∧ ((V527 0 48)).toInt ≤ 10000 := hMV527 0 48
                                      have r530 : 0 ≤ ((V527 0 8)).toInt ∧ ((V527 0 8)).toInt ≤ 70000 := hMV527 0 8
                                      have r531 : 0 ≤ ((V527 0 50)).toInt ∧ ((V527 0 50)).toInt ≤ 9 := hMV527 0 50
                                      rcases t526 with ⟨q532, sx533, h534, rl535, kp536⟩ | ⟨q532, h534⟩
                                      · skip
                                        have hr537 : ∀ k, Rc gT (Crun gs (Ipart gd :: k)) (Crun sx533 (k)) := fun k => (hr514 k).tr (h534 (k))
                                        have fz538 := RelM.rg rl535
                                        have ps539 := (kp536).1
                                        refine lv_aload_n hx hb dX12_partWithin_244 rfl (lv_at hl 2 rfl) ?_
                                        refine lv_bipush (v := 14) hx hb dX12_partWithin_245 (by decide) ?_
                                        refine lv_iload_n hx hb dX12_partWithin_247 rfl (lv_at hl 1 rfl) ?_
                                        refine lv_iload_n hx hb dX12_partWithin_248 rfl (lv_at hl 0 rfl) ?_
                                        have r540 : Int32.toInt 14 = 14 := by decide
                                        refine gA_int (gA_runV (As := [.int 14, .int z466, .int z499]) (rest := []) (ci := 12) (q0 := 0) hx hb hml hown hg hP hD hK hS hA hnw hgk (s_emit3 l D ks H.size ad kk V527 L528 14 z466 z499 hMV527 (show (V527 0 48).toInt ≤ 9999 from by first | omega | ((try (have i_t522 := Imp.go t522 (by omega))); (try (have i_t471 := Imp.go t471 (by omega))); (try (have i_t470 := Imp.go t470 (by omega))); (try (have i_t470 := Imp.go t470 (by omega))); (try (have i_t471 := Imp.go t471 (by omega))); (try (have i_t522 := Imp.go t522 (by omega))); omega))) w2136 w2138 w111 w172 w2139 rfl rfl hdV_yX12_emit ⟨(by show 0 + 1 ≤ 10 * dd + 15; omega), (by show 8 + (4 + 11) + (0) ≤ 300 * dd + 500; omega)⟩ rfl hl.1 rfl (Nat.le_of_ble_eq_true rfl) dX12_partWithin_249 ⟨Nat.le_of_ble_eq_true rfl, Nat.le_of_ble_eq_true rfl⟩) hP hD hK hS hA (fun z541 u542 H locs w543 hP hD hK hS => ?_)
                                        obtain ⟨V547, L548⟩ := u542
                                        obtain ⟨hMV547, ajV547, axL548, rgz541, t544, t545, t546⟩ := w543
                                        have axL548 : L528 = L548 := Eq.symm axL548
                                        subst axL548
                                        have hP : va_P D vwCl (mw ad kk ks.1 V547 L528) H := hP
                                        have hD : va_D A (mw ad kk ks.1 V547 L528) := hD
                                        have hMV547 : rgd bM V547 := hMV547
                                        have ajV547 : agr [(0, 48)] [45, 46, 47] V527 V547 := ajV547
                                        have agV547 : agr [(0, 7), (0, 8), (0, 48), (0, 50)] [35, 36, 37, 38, 45, 46, 47] V V547 := agV527.tr ajV547 (by decide) (by decide)
                                        have rgz541 : 0 ≤ z541.toInt ∧ z541.toInt ≤ 20000 := rgz541
                                        have t544 : (V547 0 48).toInt = (V527 0 48).toInt + 1 := t544
                                        have t545 : z541.toInt = (V527 0 49).toInt + (V527 0 48).toInt := t545
                                        have t546 : emitted V527 V547 (pA V527) 14 z466 z499 := t546
                                        have r549 : 0 ≤ ((V547 0 48)).toInt ∧ ((V547 0 48)).toInt ≤ 10000 := hMV547 0 48
                                        have pq550 : (V527 0 49).toInt = ((V 0 49)).toInt := congrArg Int32.toInt ((ajV527 0 49 rfl).trans ((ajV503 0 49 rfl).trans ((ajV489 0 49 rfl).trans ((ajV472 0 49 rfl).trans ((ajV447 0 49 rfl).trans ((ajV399 0 49 rfl).trans ((ajV316 0 49 rfl).trans ((ajV216 0 49 rfl).trans ((ajV174 0 49 rfl).trans ((ajV93 0 49 rfl).trans (ajV11 0 49 rfl)))))))))))
                                        have r551 : 0 ≤ ((V 0 49)).toInt ∧ ((V 0 49)).toInt ≤ 10000 := hMV 0 49
                                        refine lv_istore_n (lv' := [(1, .int z541), (3, .int z499), (2, .int z466), (0, .ref (ad 0))]) hx hb dX12_partWithin_252 rfl hl (by decide) rfl (fun ls hl => ?_)
                                        refine lv_goto (tgt := 275) hx hb dX12_partWithin_253 (by decide) ?_
                                        have pq552 : (V547 0 7).toInt = ((V527 0 7)).toInt := congrArg Int32.toInt (ajV547 0 7 rfl)
                                        have pq553 : (V547 0 8).toInt = ((V527 0 8)).toInt := congrArg Int32.toInt (ajV547 0 8 rfl)
                                        have pq554 : (V547 0 50).toInt = ((V527 0 50)).toInt := congrArg Int32.toInt (ajV547 0 50 rfl)
                                        have rl555 : RelM V547 L528 bq gn gT sx533 gl := RelM.ag rl535 (show agr [(0, 48)] [45, 46, 47] V527 V547 from (agr.tr agr.rf ajV547 (by decide) (by decide))) (by decide) (show agL [] L528 L528 from agL.rf) (by decide)
                                        exact W.vret hx hb hr (fun t ht hW => ⟨⟨(V547, L528), rfl, ⟨hMV547, agV547, alL528, (Imp.mk (fun hp => have hp : (V547 0 8).toInt = 0 := hp; (show (V547 0 48).toInt - (V 0 48).toInt + 1 ≤ 2 * ((V547 0 7).toInt - (V 0 7).toInt) from by first | omega | ((try (have i_t522 := Imp.go t522 (by omega))); (try (have i_t471 := Imp.go t471 (by omega))); (try (have i_t470 := Imp.go t470 (by omega))); (try (have i_t470 := Imp.go t470 (by omega))); (try (have i_t471 := Imp.go t471 (by omega))); (try (have i_t522 := Imp.go t522 (by omega))); omega)))), (show (V547 0 48).toInt ≤ 8054 - 6 * (V 0 50).toInt from by first | omega | ((try (have i_t522 := Imp.go t522 (by omega))); (try (have i_t471 := Imp.go t471 (by omega))); (try (have i_t470 := Imp.go t470 (by omega))); (try (have i_t470 := Imp.go t470 (by omega))); (try (have i_t471 := Imp.go t471 (by omega))); (try (have i_t522 := Imp.go t522 (by omega))); omega)), (show (V547 0 50).toInt = (V 0 50).toInt from by first | omega | ((try (have i_t522 := Imp.go t522 (by omega))); (try (have i_t471 := Imp.go t471 (by omega))); (try (have i_t470 := Imp.go t470 (by omega))); (try (have i_t470 := Imp.go t470 (by omega))); (try (have i_t471 := Imp.go t471 (by omega))); (try (have i_t522 := Imp.go t522 (by omega))); omega)), (show (V 0 48).toInt ≤ (V547 0 48).toInt from by first | omega | ((try (have i_t522 := Imp.go t522 (by omega))); (try (have i_t471 := Imp.go t471 (by omega))); (try (have i_t470 := Imp.go t470 (by omega))); (try (have i_t470 := Imp.go t470 (by omega))); (try (have i_t471 := Imp.go t471 (by omega))); (try (have i_t522 := Imp.go t522 (by omega))); omega)), (Or.inl ⟨W0 rl555, sx533, hr537, rl555, keepS.le (keepS.tr (keepS.tr (keepS.tr (keepS.tr (keepS.tr (keepS.rf : keepS gs 0 gs) (keepS.n1 1)) (keepS.n1 1)) (keepS.n1 1)) kp511) kp536) (by decide)⟩)⟩, by rw [ht]; exact hP, va_K.moved hW.alike hK, hD⟩, hS.F ht⟩) hS.2.2 dX12_partWithin_275
                                      · skip
                                        have hb556 : ∀ k, Rc gT (Crun gs (Ipart gd :: k)) (Cbad (V527 0 8).toInt) := fun k => (hr514 k).tr (h534 (k))
                                        refine lv_aload_n hx hb dX12_partWithin_244 rfl (lv_at hl 2 rfl) ?_
                                        refine lv_bipush (v := 14) hx hb dX12_partWithin_245 (by decide) ?_
                                        refine lv_iload_n hx hb dX12_partWithin_247 rfl (lv_at hl 1 rfl) ?_
                                        refine lv_iload_n hx hb dX12_partWithin_248 rfl (lv_at hl 0 rfl) ?_
                                        have r557 : Int32.toInt 14 = 14 := by decide
                                        refine gA_int (gA_runV (As := [.int 14, .int z466, .int z499]) (rest := []) (ci := 12) (q0 := 0) hx hb hml hown hg hP hD hK hS hA hnw hgk (s_emit3 l D ks H.size ad kk V527 L528 14 z466 z499 hMV527 (show (V527 0 48).toInt ≤ 9999 from by first | omega | ((try (have i_t522 := Imp.go t522 (by omega))); (try (have i_t471 := Imp.go t471 (by omega))); (try (have i_t470 := Imp.go t470 (by omega))); (try (have i_t470 := Imp.go t470 (by omega))); (try (have i_t471 := Imp.go t471 (by omega))); (try (have i_t522 := Imp.go t522 (by omega))); omega))) w2136 w2138 w111 w172 w2139 rfl rfl hdV_yX12_emit ⟨(by show 0 + 1 ≤ 10 * dd + 15; omega), (by show 8 + (4 + 11) + (0) ≤ 300 * dd + 500; omega)⟩ rfl hl.1 rfl (Nat.le_of_ble_eq_true rfl) dX12_partWithin_249 ⟨Nat.le_of_ble_eq_true rfl, Nat.le_of_ble_eq_true rfl⟩) hP hD hK hS hA (fun z558 u559 H locs w560 hP hD hK hS => ?_)
                                        obtain ⟨V564, L565⟩ := u559
                                        obtain ⟨hMV564, ajV564, axL565, rgz558, t561, t562, t563⟩ := w560
                                        have axL565 : L528 = L565 := Eq.symm axL565
                                        subst axL565
                                        have hP : va_P D vwCl (mw ad kk ks.1 V564 L528) H := hP
                                        have hD : va_D A (mw ad kk ks.1 V564 L528) := hD
                                        have hMV564 : rgd bM V564 := hMV564
                                        have ajV564 : agr [(0, 48)] [45, 46, 47] V527 V564 := ajV564
                                        have agV564 : agr [(0, 7), (0, 8), (0, 48), (0, 50)] [35, 36, 37, 38, 45, 46, 47] V V564 := agV527.tr ajV564 (by decide) (by decide)
                                        have rgz558 : 0 ≤ z558.toInt ∧ z558.toInt ≤ 20000 := rgz558
                                        have t561 : (V564 0 48).toInt = (V527 0 48).toInt + 1 := t561
                                        have t562 : z558.toInt = (V527 0 49).toInt + (V527 0 48).toInt := t562
                                        have t563 : emitted V527 V564 (pA V527) 14 z466 z499 := t563
                                        have r566 : 0 ≤ ((V564 0 48)).toInt ∧ ((V564 0 48)).toInt ≤ 10000 := hMV564 0 48
                                        have pq567 : (V527 0 49).toInt = ((V 0 49)).toInt := congrArg Int32.toInt ((ajV527 0 49 rfl).trans ((ajV503 0 49 rfl).trans ((ajV489 0 49 rfl).trans ((ajV472 0 49 rfl).trans ((ajV447 0 49 rfl).trans ((ajV399 0 49 rfl).trans ((ajV316 0 49 rfl).trans ((ajV216 0 49 rfl).trans ((ajV174 0 49 rfl).trans ((ajV93 0 49 rfl).trans (ajV11 0 49 rfl)))))))))))
                                        have r568 : 0 ≤ ((V 0 49)).toInt ∧ ((V 0 49)).toInt ≤ 10000 := hMV 0 49
                                        refine lv_istore_n (lv' := [(1, .int z558), (3, .int z499), (2, .int z466), (0, .ref (ad 0))]) hx hb dX12_partWithin_252 rfl hl (by decide) rfl (fun ls hl => ?_)
                                        refine lv_goto (tgt := 275) hx hb dX12_partWithin_253 (by decide) ?_
                                        have pq569 : (V564 0 7).toInt = ((V527 0 7)).toInt := congrArg Int32.toInt (ajV564 0 7 rfl)
                                        have pq570 : (V564 0 8).toInt = ((V527 0 8)).toInt := congrArg Int32.toInt (ajV564 0 8 rfl)
                                        have pq571 : (V564 0 50).toInt = ((V527 0 50)).toInt := congrArg Int32.toInt (ajV564 0 50 rfl)
                                        exact W.vret hx hb hr (fun t ht hW => ⟨⟨(V564, L528), rfl, ⟨hMV564, agV564, alL528, (Imp.mk (fun hp => have hp : (V564 0 8).toInt = 0 := hp; (show (V564 0 48).toInt - (V 0 48).toInt + 1 ≤ 2 * ((V564 0 7).toInt - (V 0 7).toInt) from by first | omega | ((try (have i_t522 := Imp.go t522 (by omega))); (try (have i_t471 := Imp.go t471 (by omega))); (try (have i_t470 := Imp.go t470 (by omega))); (try (have i_t470 := Imp.go t470 (by omega))); (try (have i_t471 := Imp.go t471 (by omega))); (try (have i_t522 := Imp.go t522 (by omega))); omega)))), (show (V564 0 48).toInt ≤ 8054 - 6 * (V 0 50).toInt from by first | omega | ((try (have i_t522 := Imp.go t522 (by omega))); (try (have i_t471 := Imp.go t471 (by omega))); (try (have i_t470 := Imp.go t470 (by omega))); (try (have i_t470 := Imp.go t470 (by omega))); (try (have i_t471 := Imp.go t471 (by omega))); (try (have i_t522 := Imp.go t522 (by omega))); omega)), (show (V564 0 50).toInt = (V 0 50).toInt from by first | omega | ((try (have i_t522 := Imp.go t522 (by omega))); (try (have i_t471 := Imp.go t471 (by omega))); (try (have i_t470 := Imp.go t470 (by omega))); (try (have i_t470 := Imp.go t470 (by omega))); (try (have i_t471 := Imp.go t471 (by omega))); (try (have i_t522 := Imp.go t522 (by omega))); omega)), (show (V 0 48).toInt ≤ (V564 0 48).toInt from by first | omega | ((try (have i_t522 := Imp.go t522 (by omega))); (try (have i_t471 := Imp.go t471 (by omega))); (try (have i_t470 := Imp.go t470 (by omega))); (try (have i_t470 := Imp.go t470 (by omega))); (try (have i_t471 := Imp.go t471 (by omega))); (try (have i_t522 := Imp.go t522 (by omega))); omega)), (Or.inr ⟨(show 1 ≤ (V564 0 8).toInt from by omega), (fun k => by rw [show (V564 0 8).toInt = (V527 0 8).toInt from by omega]; exact hb556 k)⟩)⟩, by rw [ht]; exact hP, va_K.moved hW.alike hK, hD⟩, hS.F ht⟩) hS.2.2 dX12_partWithin_275
                                    · skip
                                      have hb572 : ∀ k, Rc gT (Crun gs (Ipart gd :: k)) (Cbad (V503 0 8).toInt) := fun k => Rc.go1 (hr495 k) (me_b h507)
                                      have r573 : 0 ≤ ((V503 0 8)).toInt ∧ ((V503 0 8)).toInt ≤ 70000 := hMV503 0 8
                                      refine lv_istore_n (lv' := [(3, .int z499), (2, .int z466), (0, .ref (ad 0))]) hx hb dX12_partWithin_239 rfl hl (by decide) rfl (fun ls hl => ?_)
                                      refine lv_aload_n hx hb dX12_partWithin_240 rfl (lv_at hl 2 rfl) ?_
                                      have pq574 : (V503 0 50).toInt = ((V 0 50)).toInt := congrArg Int32.toInt ((ajV503 0 50 rfl).trans ((ajV489 0 50 rfl).trans ((ajV472 0 50 rfl).trans ((ajV447 0 50 rfl).trans ((ajV399 0 50 rfl).trans ((ajV316 0 50 rfl).trans ((ajV216 0 50 rfl).trans ((ajV174 0 50 rfl).trans ((ajV93 0 50 rfl).trans (ajV11 0 50 rfl))))))))))
                                      refine gA_void (gA_runV (As := []) (rest := []) (ci := 12) (q0 := 0) hx hb hml hown hg hP hD hK hS hA hnw hgk (s_bracketedB l D ks H.size ad kk V503 L504  hMV503 (show 1 ≤ (V503 0 8).toInt from by first | omega | ((try (have i_t471 := Imp.go t471 (by omega))); (try (have i_t470 := Imp.go t470 (by omega))); (try (have i_t470 := Imp.go t470 (by omega))); (try (have i_t471 := Imp.go t471 (by omega))); omega)) (show (V503 0 50).toInt ≤ 8 from by first | omega | ((try (have i_t471 := Imp.go t471 (by omega))); (try (have i_t470 := Imp.go t470 (by omega))); (try (have i_t470 := Imp.go t470 (by omega))); (try (have i_t471 := Imp.go t471 (by omega))); omega))) w2148 w2150 w114 w172 w2151 rfl rfl hdV_yX12_bracketed ⟨(by show 5 + 1 ≤ 10 * dd + 15; omega), (by show 8 + (1 + 11) + (108) ≤ 300 * dd + 500; omega)⟩ rfl hl.1 rfl (Nat.le_of_ble_eq_true rfl) dX12_partWithin_241 ⟨Nat.le_of_ble_eq_true rfl, Nat.le_of_ble_eq_true rfl⟩) hP hD hK hS hA (fun u576 H locs w577 hP hD hK hS => ?_)
                                      obtain ⟨V581, L582⟩ := u576
                                      obtain ⟨hMV581, ajV581, axL582, t578, t579, t580⟩ := w577
                                      have alL582 : agL [35, 36, 37, 38, 45, 46, 47] L L582 := agL.tr alL504 axL582 (by decide)
                                      have hP : va_P D vwCl (mw ad kk ks.1 V581 L582) H := hP
                                      have hD : va_D A (mw ad kk ks.1 V581 L582) := hD
                                      have hMV581 : rgd bM V581 := hMV581
                                      have ajV581 : agr [(0, 7), (0, 8), (0, 48), (0, 50)] [35, 36, 37, 38, 45, 46, 47] V503 V581 := ajV581
                                      have agV581 : agr [(0, 7), (0, 8), (0, 48), (0, 50)] [35, 36, 37, 38, 45, 46, 47] V V581 := agV503.tr ajV581 (by decide) (by decide)
                                      have t578 : (V581 0 48).toInt = (V503 0 48).toInt := t578
                                      have t579 : (V581 0 50).toInt = (V503 0 50).toInt := t579
                                      have t580 : (V581 0 8).toInt = (V503 0 8).toInt := t580
                                      have pq583 : (V503 0 48).toInt = ((V 0 48)).toInt := congrArg Int32.toInt ((ajV503 0 48 rfl).trans ((ajV489 0 48 rfl).trans ((ajV472 0 48 rfl).trans ((ajV447 0 48 rfl).trans ((ajV399 0 48 rfl).trans ((ajV316 0 48 rfl).trans ((ajV216 0 48 rfl).trans ((ajV174 0 48 rfl).trans ((ajV93 0 48 rfl).trans (ajV11 0 48 rfl))))))))))
                                      have r584 : 0 ≤ ((V581 0 48)).toInt ∧ ((V581 0 48)).toInt ≤ 10000 := hMV581 0 48
                                      have r585 : 0 ≤ ((V581 0 50)).toInt ∧ ((V581 0 50)).toInt ≤ 9 := hMV581 0 50
                                      have r586 : 0 ≤ ((V581 0 8)).toInt ∧ ((V581 0 8)).toInt ≤ 70000 := hMV581 0 8
                                      refine lv_aload_n hx hb dX12_partWithin_244 rfl (lv_at hl 2 rfl) ?_
                                      refine lv_bipush (v := 14) hx hb dX12_partWithin_245 (by decide) ?_
                                      refine lv_iload_n hx hb dX12_partWithin_247 rfl (lv_at hl 1 rfl) ?_
                                      refine lv_iload_n hx hb dX12_partWithin_248 rfl (lv_at hl 0 rfl) ?_
                                      have r587 : Int32.toInt 14 = 14 := by decide
                                      refine gA_int (gA_runV (As := [.int 14, .int z466, .int z499]) (rest := []) (ci := 12) (q0 := 0) hx hb hml hown hg hP hD hK hS hA hnw hgk (s_emit3 l D ks H.size ad kk V581 L582 14 z466 z499 hMV581 (show (V581 0 48).toInt ≤ 9999 from by first | omega | ((try (have i_t471 := Imp.go t471 (by omega))); (try (have i_t470 := Imp.go t470 (by omega))); (try (have i_t470 := Imp.go t470 (by omega))); (try (have i_t471 := Imp.go t471 (by omega))); omega))) w2136 w2138 w111 w172 w2139 rfl rfl hdV_yX12_emit ⟨(by show 0 + 1 ≤ 10 * dd + 15; omega), (by show 8 + (4 + 11) + (0) ≤ 300 * dd + 500; omega)⟩ rfl hl.1 rfl (Nat.le_of_ble_eq_true rfl) dX12_partWithin_249 ⟨Nat.le_of_ble_eq_true rfl, Nat.le_of_ble_eq_true rfl⟩) hP hD hK hS hA (fun z588 u589 H locs w590 hP hD hK hS => ?_)
                                      obtain ⟨V594, L595⟩ := u589
                                      obtain ⟨hMV594, ajV594, axL595, rgz588, t591, t592, t593⟩ := w590
                                      have axL595 : L582 = L595 := Eq.symm axL595
                                      subst axL595
                                      have hP : va_P D vwCl (mw ad kk ks.1 V594 L582) H := hP
                                      have hD : va_D A (mw ad kk ks.1 V594 L582) := hD
                                      have hMV594 : rgd bM V594 := hMV594
                                      have ajV594 : agr [(0, 48)] [45, 46, 47] V581 V594 := ajV594
                                      have agV594 : agr [(0, 7), (0, 8), (0, 48), (0, 50)] [35, 36, 37, 38, 45, 46, 47] V V594 := agV581.tr ajV594 (by decide) (by decide)
                                      have rgz588 : 0 ≤ z588.toInt ∧ z588.toInt ≤ 20000 := rgz588
                                      have t591 : (V594 0 48).toInt = (V581 0 48).toInt + 1 := t591
                                      have t592 : z588.toInt = (V581 0 49).toInt + (V581 0 48).toInt := t592
                                      have t593 : emitted V581 V594 (pA V581) 14 z466 z499 := t593
                                      have r596 : 0 ≤ ((V594 0 48)).toInt ∧ ((V594 0 48)).toInt ≤ 10000 := hMV594 0 48
                                      have pq597 : (V581 0 49).toInt = ((V 0 49)).toInt := congrArg Int32.toInt ((ajV581 0 49 rfl).trans ((ajV503 0 49 rfl).trans ((ajV489 0 49 rfl).trans ((ajV472 0 49 rfl).trans ((ajV447 0 49 rfl).trans ((ajV399 0 49 rfl).trans ((ajV316 0 49 rfl).trans ((ajV216 0 49 rfl).trans ((ajV174 0 49 rfl).trans ((ajV93 0 49 rfl).trans (ajV11 0 49 rfl)))))))))))
                                      have r598 : 0 ≤ ((V 0 49)).toInt ∧ ((V 0 49)).toInt ≤ 10000 := hMV 0 49
                                      refine lv_istore_n (lv' := [(1, .int z588), (3, .int z499), (2, .int z466), (0, .ref (ad 0))]) hx hb dX12_partWithin_252 rfl hl (by decide) rfl (fun ls hl => ?_)
                                      refine lv_goto (tgt := 275) hx hb dX12_partWithin_253 (by decide) ?_
                                      have pq599 : (V594 0 7).toInt = ((V581 0 7)).toInt := congrArg Int32.toInt (ajV594 0 7 rfl)
                                      have pq600 : (V594 0 8).toInt = ((V581 0 8)).toInt := congrArg Int32.toInt (ajV594 0 8 rfl)
                                      have pq601 : (V594 0 50).toInt = ((V581 0 50)).toInt := congrArg Int32.toInt (ajV594 0 50 rfl)
                                      exact W.vret hx hb hr (fun t ht hW => ⟨⟨(V594, L582), rfl, ⟨hMV594, agV594, alL582, (Imp.mk (fun hp => have hp : (V594 0 8).toInt = 0 := hp; (show (V594 0 48).toInt - (V 0 48).toInt + 1 ≤ 2 * ((V594 0 7).toInt - (V 0 7).toInt) from by first | omega | ((try (have i_t471 := Imp.go t471 (by omega))); (try (have i_t470 := Imp.go t470 (by omega))); (try (have i_t470 := Imp.go t470 (by omega))); (try (have i_t471 := Imp.go t471 (by omega))); omega)))), (show (V594 0 48).toInt ≤ 8054 - 6 * (V 0 50).toInt from by first | omega | ((try (have i_t471 := Imp.go t471 (by omega))); (try (have i_t470 := Imp.go t470 (by omega))); (try (have i_t470 := Imp.go t470 (by omega))); (try (have i_t471 := Imp.go t471 (by omega))); omega)), (show (V594 0 50).toInt = (V 0 50).toInt from by first | omega | ((try (have i_t471 := Imp.go t471 (by omega))); (try (have i_t470 := Imp.go t470 (by omega))); (try (have i_t470 := Imp.go t470 (by omega))); (try (have i_t471 := Imp.go t471 (by omega))); omega)), (show (V 0 48).toInt ≤ (V594 0 48).toInt from by first | omega | ((try (have i_t471 := Imp.go t471 (by omega))); (try (have i_t470 := Imp.go t470 (by omega))); (try (have i_t470 := Imp.go t470 (by omega))); (try (have i_t471 := Imp.go t471 (by omega))); omega)), (Or.inr ⟨(show 1 ≤ (V594 0 8).toInt from by omega), (fun k => by rw [show (V594 0 8).toInt = (V503 0 8).toInt from by omega]; exact hb572 k)⟩)⟩, by rw [ht]; exact hP, va_K.moved hW.alike hK, hD⟩, hS.F ht⟩) hS.2.2 dX12_partWithin_275
                                  · skip
                                    have kd602 : gT.1 ((nx (nx gs 1) 1).1 0) ≠ 46 := fun h9 => h492 (h9.trans (by decide))
                                    have hb603 : ∀ k, Rc gT (Crun gs (Ipart gd :: k)) (Cbad (V489 0 8).toInt) := fun k => Rc.go1 (hr480 k) ((tk_n kd602).trans (fl_eq rfl rl493))
                                    have r604 : 0 ≤ ((V489 0 8)).toInt ∧ ((V489 0 8)).toInt ≤ 70000 := hMV489 0 8
                                    refine lv_aload_n hx hb dX12_partWithin_227 rfl (lv_at hl 1 rfl) ?_
                                    refine lv_aload_n hx hb dX12_partWithin_228 rfl (lv_at hl 1 rfl) ?_
                                    refine va_get (D := D) (ci := 12) (v := .ref (ad 36)) (C := RX12) (T := TX12) (N := 100) hx hb hg inX12 hown hK hP 0 rfl rfl 36 (by decide) (hg _ w1742) (fun _ h9 => h9) rfl dX12_partWithin_229 ?_
                                    refine lv_aload_n hx hb dX12_partWithin_232 rfl (lv_at hl 1 rfl) ?_
                                    refine va_get (D := D) (ci := 12) (v := .ref (ad 35)) (C := RX12) (T := TX12) (N := 100) hx hb hg inX12 hown hK hP 0 rfl rfl 35 (by decide) (hg _ w1741) (fun _ h9 => h9) rfl dX12_partWithin_233 ?_
                                    refine gA_int (gA_runV (As := [.ref (ad 36), .ref (ad 35)]) (rest := []) (ci := 12) (q0 := 0) hx hb hml hown hg hP hD hK hS hA hnw hgk (s_takeWordOfB3 l D ks H.size ad kk V489 L  hMV489 (show 1 ≤ (V489 0 8).toInt from by first | omega | ((try (have i_t471 := Imp.go t471 (by omega))); (try (have i_t470 := Imp.go t470 (by omega))); (try (have i_t470 := Imp.go t470 (by omega))); (try (have i_t471 := Imp.go t471 (by omega))); omega))) w2100 w2102 w102 w172 w2103 rfl rfl hdV_yX12_takeWordOf ⟨(by show 0 + 1 ≤ 10 * dd + 15; omega), (by show 8 + (4 + 11) + (0) ≤ 300 * dd + 500; omega)⟩ rfl hl.1 rfl (Nat.le_of_ble_eq_true rfl) dX12_partWithin_236 ⟨Nat.le_of_ble_eq_true rfl, Nat.le_of_ble_eq_true rfl⟩) hP hD hK hS hA (fun z605 u606 H locs w607 hP hD hK hS => ?_)
                                    obtain ⟨V609, L610⟩ := u606
                                    obtain ⟨hMV609, ajV609, axL610, rgz605, t608⟩ := w607
                                    have alL610 : agL [35, 36, 37, 38, 45, 46, 47] L L610 := agL.tr alL axL610 (by decide)
                                    have hP : va_P D vwCl (mw ad kk ks.1 V609 L610) H := hP
                                    have hD : va_D A (mw ad kk ks.1 V609 L610) := hD
                                    have hMV609 : rgd bM V609 := hMV609
                                    have ajV609 : agr [(0, 7), (0, 8)] [35, 36, 37, 38] V489 V609 := ajV609
                                    have agV609 : agr [(0, 7), (0, 8), (0, 48), (0, 50)] [35, 36, 37, 38, 45, 46, 47] V V609 := agV489.tr ajV609 (by decide) (by decide)
                                    have rgz605 : (-1) ≤ z605.toInt ∧ z605.toInt ≤ (-1) := rgz605
                                    have t608 : (V609 0 8).toInt = (V489 0 8).toInt := t608
                                    have r611 : 0 ≤ ((V609 0 8)).toInt ∧ ((V609 0 8)).toInt ≤ 70000 := hMV609 0 8
                                    refine lv_istore_n (lv' := [(3, .int z605), (2, .int z466), (0, .ref (ad 0))]) hx hb dX12_partWithin_239 rfl hl (by decide) rfl (fun ls hl => ?_)
                                    refine lv_aload_n hx hb dX12_partWithin_240 rfl (lv_at hl 2 rfl) ?_
                                    have pq612 : (V609 0 50).toInt = ((V 0 50)).toInt := congrArg Int32.toInt ((ajV609 0 50 rfl).trans ((ajV489 0 50 rfl).trans ((ajV472 0 50 rfl).trans ((ajV447 0 50 rfl).trans ((ajV399 0 50 rfl).trans ((ajV316 0 50 rfl).trans ((ajV216 0 50 rfl).trans ((ajV174 0 50 rfl).trans ((ajV93 0 50 rfl).trans (ajV11 0 50 rfl))))))))))
                                    refine gA_void (gA_runV (As := []) (rest := []) (ci := 12) (q0 := 0) hx hb hml hown hg hP hD hK hS hA hnw hgk (s_bracketedB l D ks H.size ad kk V609 L610  hMV609 (show 1 ≤ (V609 0 8).toInt from by first | omega | ((try (have i_t471 := Imp.go t471 (by omega))); (try (have i_t470 := Imp.go t470 (by omega))); (try (have i_t470 := Imp.go t470 (by omega))); (try (have i_t471 := Imp.go t471 (by omega))); omega)) (show (V609 0 50).toInt ≤ 8 from by first | omega | ((try (have i_t471 := Imp.go t471 (by omega))); (try (have i_t470 := Imp.go t470 (by omega))); (try (have i_t470 := Imp.go t470 (by omega))); (try (have i_t471 := Imp.go t471 (by omega))); omega))) w2148 w2150 w114 w172 w2151 rfl rfl hdV_yX12_bracketed ⟨(by show 5 + 1 ≤ 10 * dd + 15; omega), (by show 8 + (1 + 11) + (108) ≤ 300 * dd + 500; omega)⟩ rfl hl.1 rfl (Nat.le_of_ble_eq_true rfl) dX12_partWithin_241 ⟨Nat.le_of_ble_eq_true rfl, Nat.le_of_ble_eq_true rfl⟩) hP hD hK hS hA (fun u614 H locs w615 hP hD hK hS => ?_)
                                    obtain ⟨V619, L620⟩ := u614
                                    obtain ⟨hMV619, ajV619, axL620, t616, t617, t618⟩ := w615
                                    have alL620 : agL [35, 36, 37, 38, 45, 46, 47] L L620 := agL.tr alL610 axL620 (by decide)
                                    have hP : va_P D vwCl (mw ad kk ks.1 V619 L620) H := hP
                                    have hD : va_D A (mw ad kk ks.1 V619 L620) := hD
                                    have hMV619 : rgd bM V619 := hMV619
                                    have ajV619 : agr [(0, 7), (0, 8), (0, 48), (0, 50)] [35, 36, 37, 38, 45, 46, 47] V609 V619 := ajV619
                                    have agV619 : agr [(0, 7), (0, 8), (0, 48), (0, 50)] [35, 36, 37, 38, 45, 46, 47] V V619 := agV609.tr ajV619 (by decide) (by decide)
                                    have t616 : (V619 0 48).toInt = (V609 0 48).toInt := t616
                                    have t617 : (V619 0 50).toInt = (V609 0 50).toInt := t617
                                    have t618 : (V619 0 8).toInt = (V609 0 8).toInt := t618
                                    have pq621 : (V609 0 48).toInt = ((V 0 48)).toInt := congrArg Int32.toInt ((ajV609 0 48 rfl).trans ((ajV489 0 48 rfl).trans ((ajV472 0 48 rfl).trans ((ajV447 0 48 rfl).trans ((ajV399 0 48 rfl).trans ((ajV316 0 48 rfl).trans ((ajV216 0 48 rfl).trans ((ajV174 0 48 rfl).trans ((ajV93 0 48 rfl).trans (ajV11 0 48 rfl))))))))))
                                    have r622 : 0 ≤ ((V619 0 48)).toInt ∧ ((V619 0 48)).toInt ≤ 10000 := hMV619 0 48
                                    have r623 : 0 ≤ ((V619 0 50)).toInt ∧ ((V619 0 50)).toInt ≤ 9 := hMV619 0 50
                                    have r624 : 0 ≤ ((V619 0 8)).toInt ∧ ((V619 0 8)).toInt ≤ 70000 := hMV619 0 8
                                    refine lv_aload_n hx hb dX12_partWithin_244 rfl (lv_at hl 2 rfl) ?_
                                    refine lv_bipush (v := 14) hx hb dX12_partWithin_245 (by decide) ?_
                                    refine lv_iload_n hx hb dX12_partWithin_247 rfl (lv_at hl 1 rfl) ?_
                                    refine lv_iload_n hx hb dX12_partWithin_248 rfl (lv_at hl 0 rfl) ?_
                                    have r625 : Int32.toInt 14 = 14 := by decide
                                    refine gA_int (gA_runV (As := [.int 14, .int z466, .int z605]) (rest := []) (ci := 12) (q0 := 0) hx hb hml hown hg hP hD hK hS hA hnw hgk (s_emit3 l D ks H.size ad kk V619 L620 14 z466 z605 hMV619 (show (V619 0 48).toInt ≤ 9999 from by first | omega | ((try (have i_t471 := Imp.go t471 (by omega))); (try (have i_t470 := Imp.go t470 (by omega))); (try (have i_t470 := Imp.go t470 (by omega))); (try (have i_t471 := Imp.go t471 (by omega))); omega))) w2136 w2138 w111 w172 w2139 rfl rfl hdV_yX12_emit ⟨(by show 0 + 1 ≤ 10 * dd + 15; omega), (by show 8 + (4 + 11) + (0) ≤ 300 * dd + 500; omega)⟩ rfl hl.1 rfl (Nat.le_of_ble_eq_true rfl) dX12_partWithin_249 ⟨Nat.le_of_ble_eq_true rfl, Nat.le_of_ble_eq_true rfl⟩) hP hD hK hS hA (fun z626 u627 H locs w628 hP hD hK hS => ?_)
                                    obtain ⟨V632, L633⟩ := u627
                                    obtain ⟨hMV632, ajV632, axL633, rgz626, t629, t630, t631⟩ := w628
                                    have axL633 : L620 = L633 := Eq.symm axL633
                                    subst axL633
                                    have hP : va_P D vwCl (mw ad kk ks.1 V632 L620) H := hP
                                    have hD : va_D A (mw ad kk ks.1 V632 L620) := hD
                                    have hMV632 : rgd bM V632 := hMV632
                                    have ajV632 : agr [(0, 48)] [45, 46, 47] V619 V632 := ajV632
                                    have agV632 : agr [(0, 7), (0, 8), (0, 48), (0, 50)] [35, 36, 37, 38, 45, 46, 47] V V632 := agV619.tr ajV632 (by decide) (by decide)
                                    have rgz626 : 0 ≤ z626.toInt ∧ z626.toInt ≤ 20000 := rgz626
                                    have t629 : (V632 0 48).toInt = (V619 0 48).toInt + 1 := t629
                                    have t630 : z626.toInt = (V619 0 49).toInt + (V619 0 48).toInt := t630
                                    have t631 : emitted V619 V632 (pA V619) 14 z466 z605 := t631
                                    have r634 : 0 ≤ ((V632 0 48)).toInt ∧ ((V632 0 48)).toInt ≤ 10000 := hMV632 0 48
                                    have pq635 : (V619 0 49).toInt = ((V 0 49)).toInt := congrArg Int32.toInt ((ajV619 0 49 rfl).trans ((ajV609 0 49 rfl).trans ((ajV489 0 49 rfl).trans ((ajV472 0 49 rfl).trans ((ajV447 0 49 rfl).trans ((ajV399 0 49 rfl).trans ((ajV316 0 49 rfl).trans ((ajV216 0 49 rfl).trans ((ajV174 0 49 rfl).trans ((ajV93 0 49 rfl).trans (ajV11 0 49 rfl)))))))))))
                                    have r636 : 0 ≤ ((V 0 49)).toInt ∧ ((V 0 49)).toInt ≤ 10000 := hMV 0 49
                                    refine lv_istore_n (lv' := [(1, .int z626), (3, .int z605), (2, .int z466), (0, .ref (ad 0))]) hx hb dX12_partWithin_252 rfl hl (by decide) rfl (fun ls hl => ?_)
                                    refine lv_goto (tgt := 275) hx hb dX12_partWithin_253 (by decide) ?_
                                    have pq637 : (V632 0 7).toInt = ((V619 0 7)).toInt := congrArg Int32.toInt (ajV632 0 7 rfl)
                                    have pq638 : (V632 0 8).toInt = ((V619 0 8)).toInt := congrArg Int32.toInt (ajV632 0 8 rfl)
                                    have pq639 : (V632 0 50).toInt = ((V619 0 50)).toInt := congrArg Int32.toInt (ajV632 0 50 rfl)
                                    exact W.vret hx hb hr (fun t ht hW => ⟨⟨(V632, L620), rfl, ⟨hMV632, agV632, alL620, (Imp.mk (fun hp => have hp : (V632 0 8).toInt = 0 := hp; (show (V632 0 48).toInt - (V 0 48).toInt + 1 ≤ 2 * ((V632 0 7).toInt - (V 0 7).toInt) from by first | omega | ((try (have i_t471 := Imp.go t471 (by omega))); (try (have i_t470 := Imp.go t470 (by omega))); (try (have i_t470 := Imp.go t470 (by omega))); (try (have i_t471 := Imp.go t471 (by omega))); omega)))), (show (V632 0 48).toInt ≤ 8054 - 6 * (V 0 50).toInt from by first | omega | ((try (have i_t471 := Imp.go t471 (by omega))); (try (have i_t470 := Imp.go t470 (by omega))); (try (have i_t470 := Imp.go t470 (by omega))); (try (have i_t471 := Imp.go t471 (by omega))); omega)), (show (V632 0 50).toInt = (V 0 50).toInt from by first | omega | ((try (have i_t471 := Imp.go t471 (by omega))); (try (have i_t470 := Imp.go t470 (by omega))); (try (have i_t470 := Imp.go t470 (by omega))); (try (have i_t471 := Imp.go t471 (by omega))); omega)), (show (V 0 48).toInt ≤ (V632 0 48).toInt from by first | omega | ((try (have i_t471 := Imp.go t471 (by omega))); (try (have i_t470 := Imp.go t470 (by omega))); (try (have i_t470 := Imp.go t470 (by omega))); (try (have i_t471 := Imp.go t471 (by omega))); omega)), (Or.inr ⟨(show 1 ≤ (V632 0 8).toInt from by omega), (fun k => by rw [show (V632 0 8).toInt = (V489 0 8).toInt from by omega]; exact hb603 k)⟩)⟩, by rw [ht]; exact hP, va_K.moved hW.alike hK, hD⟩, hS.F ht⟩) hS.2.2 dX12_partWithin_275
                                · skip
                                  have hb640 : ∀ k, Rc gT (Crun gs (Ipart gd :: k)) (Cbad (V472 0 8).toInt) := fun k => Rc.go1 (hr462 k) ((nm_1 h476).trans (fl_eq rfl rl479))
                                  have nr641 := Imp.go t471 q475
                                  refine lv_istore_n (lv' := [(2, .int z466), (0, .ref (ad 0))]) hx hb dX12_partWithin_220 rfl hl (by decide) rfl (fun ls hl => ?_)
                                  refine lv_aload_n hx hb dX12_partWithin_221 rfl (lv_at hl 1 rfl) ?_
                                  refine lv_bipush (v := 46) hx hb dX12_partWithin_222 (by decide) ?_
                                  have r642 : Int32.toInt 46 = 46 := by decide
                                  refine gA_void (gA_runV (As := [.int 46]) (rest := []) (ci := 12) (q0 := 0) hx hb hml hown hg hP hD hK hS hA hnw hgk (s_takeSignB l D ks H.size ad kk V472 L 46 hMV472 (show 1 ≤ (V472 0 8).toInt from by first | omega | ((try (have i_t471 := Imp.go t471 (by omega))); (try (have i_t470 := Imp.go t470 (by omega))); (try (have i_t470 := Imp.go t470 (by omega))); (try (have i_t471 := Imp.go t471 (by omega))); omega))) w2075 w2077 w96 w172 w2078 rfl rfl hdV_yX12_takeSign ⟨(by show 1 + 1 ≤ 10 * dd + 15; omega), (by show 8 + (2 + 11) + (21) ≤ 300 * dd + 500; omega)⟩ rfl hl.1 rfl (Nat.le_of_ble_eq_true rfl) dX12_partWithin_224 ⟨Nat.le_of_ble_eq_true rfl, Nat.le_of_ble_eq_true rfl⟩) hP hD hK hS hA (fun u644 H locs w645 hP hD hK hS => ?_)
                                  obtain ⟨V647, L648⟩ := u644
                                  obtain ⟨hMV647, ajV647, axL648, t646⟩ := w645
                                  have axL648 : L = L648 := Eq.symm axL648
                                  subst axL648
                                  have hP : va_P D vwCl (mw ad kk ks.1 V647 L) H := hP
                                  have hD : va_D A (mw ad kk ks.1 V647 L) := hD
                                  have hMV647 : rgd bM V647 := hMV647
                                  have ajV647 : agr [(0, 7), (0, 8)] [] V472 V647 := ajV647
                                  have agV647 : agr [(0, 7), (0, 8), (0, 48), (0, 50)] [35, 36, 37, 38, 45, 46, 47] V V647 := agV472.tr ajV647 (by decide) (by decide)
                                  have t646 : (V647 0 8).toInt = (V472 0 8).toInt := t646
                                  have r649 : 0 ≤ ((V647 0 8)).toInt ∧ ((V647 0 8)).toInt ≤ 70000 := hMV647 0 8
                                  refine lv_aload_n hx hb dX12_partWithin_227 rfl (lv_at hl 1 rfl) ?_
                                  refine lv_aload_n hx hb dX12_partWithin_228 rfl (lv_at hl 1 rfl) ?_
                                  refine va_get (D := D) (ci := 12) (v := .ref (ad 36)) (C := RX12) (T := TX12) (N := 100) hx hb hg inX12 hown hK hP 0 rfl rfl 36 (by decide) (hg _ w1742) (fun _ h9 => h9) rfl dX12_partWithin_229 ?_
                                  refine lv_aload_n hx hb dX12_partWithin_232 rfl (lv_at hl 1 rfl) ?_
                                  refine va_get (D := D) (ci := 12) (v := .ref (ad 35)) (C := RX12) (T := TX12) (N := 100) hx hb hg inX12 hown hK hP 0 rfl rfl 35 (by decide) (hg _ w1741) (fun _ h9 => h9) rfl dX12_partWithin_233 ?_
                                  refine gA_int (gA_runV (As := [.ref (ad 36), .ref (ad 35)]) (rest := []) (ci := 12) (q0 := 0) hx hb hml hown hg hP hD hK hS hA hnw hgk (s_takeWordOfB3 l D ks H.size ad kk V647 L  hMV647 (show 1 ≤ (V647 0 8).toInt from by first | omega | ((try (have i_t471 := Imp.go t471 (by omega))); (try (have i_t470 := Imp.go t470 (by omega))); (try (have i_t470 := Imp.go t470 (by omega))); (try (have i_t471 := Imp.go t471 (by omega))); omega))) w2100 w2102 w102 w172 w2103 rfl rfl hdV_yX12_takeWordOf ⟨(by show 0 + 1 ≤ 10 * dd + 15; omega), (by show 8 + (4 + 11) + (0) ≤ 300 * dd + 500; omega)⟩ rfl hl.1 rfl (Nat.le_of_ble_eq_true rfl) dX12_partWithin_236 ⟨Nat.le_of_ble_eq_true rfl, Nat.le_of_ble_eq_true rfl⟩) hP hD hK hS hA (fun z650 u651 H locs w652 hP hD hK hS => ?_)
                                  obtain ⟨V654, L655⟩ := u651
                                  obtain ⟨hMV654, ajV654, axL655, rgz650, t653⟩ := w652
                                  have alL655 : agL [35, 36, 37, 38, 45, 46, 47] L L655 := agL.tr alL axL655 (by decide)
                                  have hP : va_P D vwCl (mw ad kk ks.1 V654 L655) H := hP
                                  have hD : va_D A (mw ad kk ks.1 V654 L655) := hD
                                  have hMV654 : rgd bM V654 := hMV654
                                  have ajV654 : agr [(0, 7), (0, 8)] [35, 36, 37, 38] V647 V654 := ajV654
                                  have agV654 : agr [(0, 7), (0, 8), (0, 48), (0, 50)] [35, 36, 37, 38, 45, 46, 47] V V654 := agV647.tr ajV654 (by decide) (by decide)
                                  have rgz650 : (-1) ≤ z650.toInt ∧ z650.toInt ≤ (-1) := rgz650
                                  have t653 : (V654 0 8).toInt = (V647 0 8).toInt := t653
                                  have r656 : 0 ≤ ((V654 0 8)).toInt ∧ ((V654 0 8)).toInt ≤ 70000 := hMV654 0 8
                                  refine lv_istore_n (lv' := [(3, .int z650), (2, .int z466), (0, .ref (ad 0))]) hx hb dX12_partWithin_239 rfl hl (by decide) rfl (fun ls hl => ?_)
                                  refine lv_aload_n hx hb dX12_partWithin_240 rfl (lv_at hl 2 rfl) ?_
                                  have pq657 : (V654 0 50).toInt = ((V 0 50)).toInt := congrArg Int32.toInt ((ajV654 0 50 rfl).trans ((ajV647 0 50 rfl).trans ((ajV472 0 50 rfl).trans ((ajV447 0 50 rfl).trans ((ajV399 0 50 rfl).trans ((ajV316 0 50 rfl).trans ((ajV216 0 50 rfl).trans ((ajV174 0 50 rfl).trans ((ajV93 0 50 rfl).trans (ajV11 0 50 rfl))))))))))
                                  refine gA_void (gA_runV (As := []) (rest := []) (ci := 12) (q0 := 0) hx hb hml hown hg hP hD hK hS hA hnw hgk (s_bracketedB l D ks H.size ad kk V654 L655  hMV654 (show 1 ≤ (V654 0 8).toInt from by first | omega | ((try (have i_t471 := Imp.go t471 (by omega))); (try (have i_t470 := Imp.go t470 (by omega))); (try (have i_t470 := Imp.go t470 (by omega))); (try (have i_t471 := Imp.go t471 (by omega))); omega)) (show (V654 0 50).toInt ≤ 8 from by first | omega | ((try (have i_t471 := Imp.go t471 (by omega))); (try (have i_t470 := Imp.go t470 (by omega))); (try (have i_t470 := Imp.go t470 (by omega))); (try (have i_t471 := Imp.go t471 (by omega))); omega))) w2148 w2150 w114 w172 w2151 rfl rfl hdV_yX12_bracketed ⟨(by show 5 + 1 ≤ 10 * dd + 15; omega), (by show 8 + (1 + 11) + (108) ≤ 300 * dd + 500; omega)⟩ rfl hl.1 rfl (Nat.le_of_ble_eq_true rfl) dX12_partWithin_241 ⟨Nat.le_of_ble_eq_true rfl, Nat.le_of_ble_eq_true rfl⟩) hP hD hK hS hA (fun u659 H locs w660 hP hD hK hS => ?_)
                                  obtain ⟨V664, L665⟩ := u659
                                  obtain ⟨hMV664, ajV664, axL665, t661, t662, t663⟩ := w660
                                  have alL665 : agL [35, 36, 37, 38, 45, 46, 47] L L665 := agL.tr alL655 axL665 (by decide)
                                  have hP : va_P D vwCl (mw ad kk ks.1 V664 L665) H := hP
                                  have hD : va_D A (mw ad kk ks.1 V664 L665) := hD
                                  have hMV664 : rgd bM V664 := hMV664
                                  have ajV664 : agr [(0, 7), (0, 8), (0, 48), (0, 50)] [35, 36, 37, 38, 45, 46, 47] V654 V664 := ajV664
                                  have agV664 : agr [(0, 7), (0, 8), (0, 48), (0, 50)] [35, 36, 37, 38, 45, 46, 47] V V664 := agV654.tr ajV664 (by decide) (by decide)
                                  have t661 : (V664 0 48).toInt = (V654 0 48).toInt := t661
                                  have t662 : (V664 0 50).toInt = (V654 0 50).toInt := t662
                                  have t663 : (V664 0 8).toInt = (V654 0 8).toInt := t663
                                  have pq666 : (V654 0 48).toInt = ((V 0 48)).toInt := congrArg Int32.toInt ((ajV654 0 48 rfl).trans ((ajV647 0 48 rfl).trans ((ajV472 0 48 rfl).trans ((ajV447 0 48 rfl).trans ((ajV399 0 48 rfl).trans ((ajV316 0 48 rfl).trans ((ajV216 0 48 rfl).trans ((ajV174 0 48 rfl).trans ((ajV93 0 48 rfl).trans (ajV11 0 48 rfl))))))))))
                                  have r667 : 0 ≤ ((V664 0 48)).toInt ∧ ((V664 0 48)).toInt ≤ 10000 := hMV664 0 48
                                  have r668 : 0 ≤ ((V664 0 50)).toInt ∧ ((V664 0 50)).toInt ≤ 9 := hMV664 0 50
                                  have r669 : 0 ≤ ((V664 0 8)).toInt ∧ ((V664 0 8)).toInt ≤ 70000 := hMV664 0 8
                                  refine lv_aload_n hx hb dX12_partWithin_244 rfl (lv_at hl 2 rfl) ?_
                                  refine lv_bipush (v := 14) hx hb dX12_partWithin_245 (by decide) ?_
                                  refine lv_iload_n hx hb dX12_partWithin_247 rfl (lv_at hl 1 rfl) ?_
                                  refine lv_iload_n hx hb dX12_partWithin_248 rfl (lv_at hl 0 rfl) ?_
                                  have r670 : Int32.toInt 14 = 14 := by decide
                                  refine gA_int (gA_runV (As := [.int 14, .int z466, .int z650]) (rest := []) (ci := 12) (q0 := 0) hx hb hml hown hg hP hD hK hS hA hnw hgk (s_emit3 l D ks H.size ad kk V664 L665 14 z466 z650 hMV664 (show (V664 0 48).toInt ≤ 9999 from by first | omega | ((try (have i_t471 := Imp.go t471 (by omega))); (try (have i_t470 := Imp.go t470 (by omega))); (try (have i_t470 := Imp.go t470 (by omega))); (try (have i_t471 := Imp.go t471 (by omega))); omega))) w2136 w2138 w111 w172 w2139 rfl rfl hdV_yX12_emit ⟨(by show 0 + 1 ≤ 10 * dd + 15; omega), (by show 8 + (4 + 11) + (0) ≤ 300 * dd + 500; omega)⟩ rfl hl.1 rfl (Nat.le_of_ble_eq_true rfl) dX12_partWithin_249 ⟨Nat.le_of_ble_eq_true rfl, Nat.le_of_ble_eq_true rfl⟩) hP hD hK hS hA (fun z671 u672 H locs w673 hP hD hK hS => ?_)
                                  obtain ⟨V677, L678⟩ := u672
                                  obtain ⟨hMV677, ajV677, axL678, rgz671, t674, t675, t676⟩ := w673
                                  have axL678 : L665 = L678 := Eq.symm axL678
                                  subst axL678
                                  have hP : va_P D vwCl (mw ad kk ks.1 V677 L665) H := hP
                                  have hD : va_D A (mw ad kk ks.1 V677 L665) := hD
                                  have hMV677 : rgd bM V677 := hMV677
                                  have ajV677 : agr [(0, 48)] [45, 46, 47] V664 V677 := ajV677
                                  have agV677 : agr [(0, 7), (0, 8), (0, 48), (0, 50)] [35, 36, 37, 38, 45, 46, 47] V V677 := agV664.tr ajV677 (by decide) (by decide)
                                  have rgz671 : 0 ≤ z671.toInt ∧ z671.toInt ≤ 20000 := rgz671
                                  have t674 : (V677 0 48).toInt = (V664 0 48).toInt + 1 := t674
                                  have t675 : z671.toInt = (V664 0 49).toInt + (V664 0 48).toInt := t675
                                  have t676 : emitted V664 V677 (pA V664) 14 z466 z650 := t676
                                  have r679 : 0 ≤ ((V677 0 48)).toInt ∧ ((V677 0 48)).toInt ≤ 10000 := hMV677 0 48
                                  have pq680 : (V664 0 49).toInt = ((V 0 49)).toInt := congrArg Int32.toInt ((ajV664 0 49 rfl).trans ((ajV654 0 49 rfl).trans ((ajV647 0 49 rfl).trans ((ajV472 0 49 rfl).trans ((ajV447 0 49 rfl).trans ((ajV399 0 49 rfl).trans ((ajV316 0 49 rfl).trans ((ajV216 0 49 rfl).trans ((ajV174 0 49 rfl).trans ((ajV93 0 49 rfl).trans (ajV11 0 49 rfl)))))))))))
                                  have r681 : 0 ≤ ((V 0 49)).toInt ∧ ((V 0 49)).toInt ≤ 10000 := hMV 0 49
                                  refine lv_istore_n (lv' := [(1, .int z671), (3, .int z650), (2, .int z466), (0, .ref (ad 0))]) hx hb dX12_partWithin_252 rfl hl (by decide) rfl (fun ls hl => ?_)
                                  refine lv_goto (tgt := 275) hx hb dX12_partWithin_253 (by decide) ?_
                                  have pq682 : (V677 0 7).toInt = ((V664 0 7)).toInt := congrArg Int32.toInt (ajV677 0 7 rfl)
                                  have pq683 : (V677 0 8).toInt = ((V664 0 8)).toInt := congrArg Int32.toInt (ajV677 0 8 rfl)
                                  have pq684 : (V677 0 50).toInt = ((V664 0 50)).toInt := congrArg Int32.toInt (ajV677 0 50 rfl)
                                  exact W.vret hx hb hr (fun t ht hW => ⟨⟨(V677, L665), rfl, ⟨hMV677, agV677, alL665, (Imp.mk (fun hp => have hp : (V677 0 8).toInt = 0 := hp; (show (V677 0 48).toInt - (V 0 48).toInt + 1 ≤ 2 * ((V677 0 7).toInt - (V 0 7).toInt) from by first | omega | ((try (have i_t471 := Imp.go t471 (by omega))); (try (have i_t470 := Imp.go t470 (by omega))); (try (have i_t470 := Imp.go t470 (by omega))); (try (have i_t471 := Imp.go t471 (by omega))); omega)))), (show (V677 0 48).toInt ≤ 8054 - 6 * (V 0 50).toInt from by first | omega | ((try (have i_t471 := Imp.go t471 (by omega))); (try (have i_t470 := Imp.go t470 (by omega))); (try (have i_t470 := Imp.go t470 (by omega))); (try (have i_t471 := Imp.go t471 (by omega))); omega)), (show (V677 0 50).toInt = (V 0 50).toInt from by first | omega | ((try (have i_t471 := Imp.go t471 (by omega))); (try (have i_t470 := Imp.go t470 (by omega))); (try (have i_t470 := Imp.go t470 (by omega))); (try (have i_t471 := Imp.go t471 (by omega))); omega)), (show (V 0 48).toInt ≤ (V677 0 48).toInt from by first | omega | ((try (have i_t471 := Imp.go t471 (by omega))); (try (have i_t470 := Imp.go t470 (by omega))); (try (have i_t470 := Imp.go t470 (by omega))); (try (have i_t471 := Imp.go t471 (by omega))); omega)), (Or.inr ⟨(show 1 ≤ (V677 0 8).toInt from by omega), (fun k => by rw [show (V677 0 8).toInt = (V472 0 8).toInt from by omega]; exact hb640 k)⟩)⟩, by rw [ht]; exact hP, va_K.moved hW.alike hK, hD⟩, hS.F ht⟩) hS.2.2 dX12_partWithin_275
                                · skip
                                  have hb685 : ∀ k, Rc gT (Crun gs (Ipart gd :: k)) (Cbad (V472 0 8).toInt) := fun k => Rc.go1 (hr462 k) ((nm_4 h476 (by omega)).trans (fl_eq rfl rl479))
                                  have nr686 := Imp.go t471 q475
                                  refine lv_istore_n (lv' := [(2, .int z466), (0, .ref (ad 0))]) hx hb dX12_partWithin_220 rfl hl (by decide) rfl (fun ls hl => ?_)
                                  refine lv_aload_n hx hb dX12_partWithin_221 rfl (lv_at hl 1 rfl) ?_
                                  refine lv_bipush (v := 46) hx hb dX12_partWithin_222 (by decide) ?_
                                  have r687 : Int32.toInt 46 = 46 := by decide
                                  refine gA_void (gA_runV (As := [.int 46]) (rest := []) (ci := 12) (q0 := 0) hx hb hml hown hg hP hD hK hS hA hnw hgk (s_takeSignB l D ks H.size ad kk V472 L 46 hMV472 (show 1 ≤ (V472 0 8).toInt from by first | omega | ((try (have i_t471 := Imp.go t471 (by omega))); (try (have i_t470 := Imp.go t470 (by omega))); (try (have i_t470 := Imp.go t470 (by omega))); (try (have i_t471 := Imp.go t471 (by omega))); omega))) w2075 w2077 w96 w172 w2078 rfl rfl hdV_yX12_takeSign ⟨(by show 1 + 1 ≤ 10 * dd + 15; omega), (by show 8 + (2 + 11) + (21) ≤ 300 * dd + 500; omega)⟩ rfl hl.1 rfl (Nat.le_of_ble_eq_true rfl) dX12_partWithin_224 ⟨Nat.le_of_ble_eq_true rfl, Nat.le_of_ble_eq_true rfl⟩) hP hD hK hS hA (fun u689 H locs w690 hP hD hK hS => ?_)
                                  obtain ⟨V692, L693⟩ := u689
                                  obtain ⟨hMV692, ajV692, axL693, t691⟩ := w690
                                  have axL693 : L = L693 := Eq.symm axL693
                                  subst axL693
                                  have hP : va_P D vwCl (mw ad kk ks.1 V692 L) H := hP
                                  have hD : va_D A (mw ad kk ks.1 V692 L) := hD
                                  have hMV692 : rgd bM V692 := hMV692
                                  have ajV692 : agr [(0, 7), (0, 8)] [] V472 V692 := ajV692
                                  have agV692 : agr [(0, 7), (0, 8), (0, 48), (0, 50)] [35, 36, 37, 38, 45, 46, 47] V V692 := agV472.tr ajV692 (by decide) (by decide)
                                  have t691 : (V692 0 8).toInt = (V472 0 8).toInt := t691
                                  have r694 : 0 ≤ ((V692 0 8)).toInt ∧ ((V692 0 8)).toInt ≤ 70000 := hMV692 0 8
                                  refine lv_aload_n hx hb dX12_partWithin_227 rfl (lv_at hl 1 rfl) ?_
                                  refine lv_aload_n hx hb dX12_partWithin_228 rfl (lv_at hl 1 rfl) ?_
                                  refine va_get (D := D) (ci := 12) (v := .ref (ad 36)) (C := RX12) (T := TX12) (N := 100) hx hb hg inX12 hown hK hP 0 rfl rfl 36 (by decide) (hg _ w1742) (fun _ h9 => h9) rfl dX12_partWithin_229 ?_
                                  refine lv_aload_n hx hb dX12_partWithin_232 rfl (lv_at hl 1 rfl) ?_
                                  refine va_get (D := D) (ci := 12) (v := .ref (ad 35)) (C := RX12) (T := TX12) (N := 100) hx hb hg inX12 hown hK hP 0 rfl rfl 35 (by decide) (hg _ w1741) (fun _ h9 => h9) rfl dX12_partWithin_233 ?_
                                  refine gA_int (gA_runV (As := [.ref (ad 36), .ref (ad 35)]) (rest := []) (ci := 12) (q0 := 0) hx hb hml hown hg hP hD hK hS hA hnw hgk (s_takeWordOfB3 l D ks H.size ad kk V692 L  hMV692 (show 1 ≤ (V692 0 8).toInt from by first | omega | ((try (have i_t471 := Imp.go t471 (by omega))); (try (have i_t470 := Imp.go t470 (by omega))); (try (have i_t470 := Imp.go t470 (by omega))); (try (have i_t471 := Imp.go t471 (by omega))); omega))) w2100 w2102 w102 w172 w2103 rfl rfl hdV_yX12_takeWordOf ⟨(by show 0 + 1 ≤ 10 * dd + 15; omega), (by show 8 + (4 + 11) + (0) ≤ 300 * dd + 500; omega)⟩ rfl hl.1 rfl (Nat.le_of_ble_eq_true rfl) dX12_partWithin_236 ⟨Nat.le_of_ble_eq_true rfl, Nat.le_of_ble_eq_true rfl⟩) hP hD hK hS hA (fun z695 u696 H locs w697 hP hD hK hS => ?_)
                                  obtain ⟨V699, L700⟩ := u696
                                  obtain ⟨hMV699, ajV699, axL700, rgz695, t698⟩ := w697
                                  have alL700 : agL [35, 36, 37, 38, 45, 46, 47] L L700 := agL.tr alL axL700 (by decide)
                                  have hP : va_P D vwCl (mw ad kk ks.1 V699 L700) H := hP
                                  have hD : va_D A (mw ad kk ks.1 V699 L700) := hD
                                  have hMV699 : rgd bM V699 := hMV699
                                  have ajV699 : agr [(0, 7), (0, 8)] [35, 36, 37, 38] V692 V699 := ajV699
                                  have agV699 : agr [(0, 7), (0, 8), (0, 48), (0, 50)] [35, 36, 37, 38, 45, 46, 47] V V699 := agV692.tr ajV699 (by decide) (by decide)
                                  have rgz695 : (-1) ≤ z695.toInt ∧ z695.toInt ≤ (-1) := rgz695
                                  have t698 : (V699 0 8).toInt = (V692 0 8).toInt := t698
                                  have r701 : 0 ≤ ((V699 0 8)).toInt ∧ ((V699 0 8)).toInt ≤ 70000 := hMV699 0 8
                                  refine lv_istore_n (lv' := [(3, .int z695), (2, .int z466), (0, .ref (ad 0))]) hx hb dX12_partWithin_239 rfl hl (by decide) rfl (fun ls hl => ?_)
                                  refine lv_aload_n hx hb dX12_partWithin_240 rfl (lv_at hl 2 rfl) ?_
                                  have pq702 : (V699 0 50).toInt = ((V 0 50)).toInt := congrArg Int32.toInt ((ajV699 0 50 rfl).trans ((ajV692 0 50 rfl).trans ((ajV472 0 50 rfl).trans ((ajV447 0 50 rfl).trans ((ajV399 0 50 rfl).trans ((ajV316 0 50 rfl).trans ((ajV216 0 50 rfl).trans ((ajV174 0 50 rfl).trans ((ajV93 0 50 rfl).trans (ajV11 0 50 rfl))))))))))
                                  refine gA_void (gA_runV (As := []) (rest := []) (ci := 12) (q0 := 0) hx hb hml hown hg hP hD hK hS hA hnw hgk (s_bracketedB l D ks H.size ad kk V699 L700  hMV699 (show 1 ≤ (V699 0 8).toInt from by first | omega | ((try (have i_t471 := Imp.go t471 (by omega))); (try (have i_t470 := Imp.go t470 (by omega))); (try (have i_t470 := Imp.go t470 (by omega))); (try (have i_t471 := Imp.go t471 (by omega))); omega)) (show (V699 0 50).toInt ≤ 8 from by first | omega | ((try (have i_t471 := Imp.go t471 (by omega))); (try (have i_t470 := Imp.go t470 (by omega))); (try (have i_t470 := Imp.go t470 (by omega))); (try (have i_t471 := Imp.go t471 (by omega))); omega))) w2148 w2150 w114 w172 w2151 rfl rfl hdV_yX12_bracketed ⟨(by show 5 + 1 ≤ 10 * dd + 15; omega), (by show 8 + (1 + 11) + (108) ≤ 300 * dd + 500; omega)⟩ rfl hl.1 rfl (Nat.le_of_ble_eq_true rfl) dX12_partWithin_241 ⟨Nat.le_of_ble_eq_true rfl, Nat.le_of_ble_eq_true rfl⟩) hP hD hK hS hA (fun u704 H locs w705 hP hD hK hS => ?_)
                                  obtain ⟨V709, L710⟩ := u704
                                  obtain ⟨hMV709, ajV709, axL710, t706, t707, t708⟩ := w705
                                  have alL710 : agL [35, 36, 37, 38, 45, 46, 47] L L710 := agL.tr alL700 axL710 (by decide)
                                  have hP : va_P D vwCl (mw ad kk ks.1 V709 L710) H := hP
                                  have hD : va_D A (mw ad kk ks.1 V709 L710) := hD
                                  have hMV709 : rgd bM V709 := hMV709
                                  have ajV709 : agr [(0, 7), (0, 8), (0, 48), (0, 50)] [35, 36, 37, 38, 45, 46, 47] V699 V709 := ajV709
                                  have agV709 : agr [(0, 7), (0, 8), (0, 48), (0, 50)] [35, 36, 37, 38, 45, 46, 47] V V709 := agV699.tr ajV709 (by decide) (by decide)
                                  have t706 : (V709 0 48).toInt = (V699 0 48).toInt := t706
                                  have t707 : (V709 0 50).toInt = (V699 0 50).toInt := t707
                                  have t708 : (V709 0 8).toInt = (V699 0 8).toInt := t708
                                  have pq711 : (V699 0 48).toInt = ((V 0 48)).toInt := congrArg Int32.toInt ((ajV699 0 48 rfl).trans ((ajV692 0 48 rfl).trans ((ajV472 0 48 rfl).trans ((ajV447 0 48 rfl).trans ((ajV399 0 48 rfl).trans ((ajV316 0 48 rfl).trans ((ajV216 0 48 rfl).trans ((ajV174 0 48 rfl).trans ((ajV93 0 48 rfl).trans (ajV11 0 48 rfl))))))))))
                                  have r712 : 0 ≤ ((V709 0 48)).toInt ∧ ((V709 0 48)).toInt ≤ 10000 := hMV709 0 48
                                  have r713 : 0 ≤ ((V709 0 50)).toInt ∧ ((V709 0 50)).toInt ≤ 9 := hMV709 0 50
                                  have r714 : 0 ≤ ((V709 0 8)).toInt ∧ ((V709 0 8)).toInt ≤ 70000 := hMV709 0 8
                                  refine lv_aload_n hx hb dX12_partWithin_244 rfl (lv_at hl 2 rfl) ?_
                                  refine lv_bipush (v := 14) hx hb dX12_partWithin_245 (by decide) ?_
                                  refine lv_iload_n hx hb dX12_partWithin_247 rfl (lv_at hl 1 rfl) ?_
                                  refine lv_iload_n hx hb dX12_partWithin_248 rfl (lv_at hl 0 rfl) ?_
                                  have r715 : Int32.toInt 14 = 14 := by decide
                                  refine gA_int (gA_runV (As := [.int 14, .int z466, .int z695]) (rest := []) (ci := 12) (q0 := 0) hx hb hml hown hg hP hD hK hS hA hnw hgk (s_emit3 l D ks H.size ad kk V709 L710 14 z466 z695 hMV709 (show (V709 0 48).toInt ≤ 9999 from by first | omega | ((try (have i_t471 := Imp.go t471 (by omega))); (try (have i_t470 := Imp.go t470 (by omega))); (try (have i_t470 := Imp.go t470 (by omega))); (try (have i_t471 := Imp.go t471 (by omega))); omega))) w2136 w2138 w111 w172 w2139 rfl rfl hdV_yX12_emit ⟨(by show 0 + 1 ≤ 10 * dd + 15; omega), (by show 8 + (4 + 11) + (0) ≤ 300 * dd + 500; omega)⟩ rfl hl.1 rfl (Nat.le_of_ble_eq_true rfl) dX12_partWithin_249 ⟨Nat.le_of_ble_eq_true rfl, Nat.le_of_ble_eq_true rfl⟩) hP hD hK hS hA (fun z716 u717 H locs w718 hP hD hK hS => ?_)
                                  obtain ⟨V722, L723⟩ := u717
                                  obtain ⟨hMV722, ajV722, axL723, rgz716, t719, t720, t721⟩ := w718
                                  have axL723 : L710 = L723 := Eq.symm axL723
                                  subst axL723
                                  have hP : va_P D vwCl (mw ad kk ks.1 V722 L710) H := hP
                                  have hD : va_D A (mw ad kk ks.1 V722 L710) := hD
                                  have hMV722 : rgd bM V722 := hMV722
                                  have ajV722 : agr [(0, 48)] [45, 46, 47] V709 V722 := ajV722
                                  have agV722 : agr [(0, 7), (0, 8), (0, 48), (0, 50)] [35, 36, 37, 38, 45, 46, 47] V V722 := agV709.tr ajV722 (by decide) (by decide)
                                  have rgz716 : 0 ≤ z716.toInt ∧ z716.toInt ≤ 20000 := rgz716
                                  have t719 : (V722 0 48).toInt = (V709 0 48).toInt + 1 := t719
                                  have t720 : z716.toInt = (V709 0 49).toInt + (V709 0 48).toInt := t720
                                  have t721 : emitted V709 V722 (pA V709) 14 z466 z695 := t721
                                  have r724 : 0 ≤ ((V722 0 48)).toInt ∧ ((V722 0 48)).toInt ≤ 10000 := hMV722 0 48
                                  have pq725 : (V709 0 49).toInt = ((V 0 49)).toInt := congrArg Int32.toInt ((ajV709 0 49 rfl).trans ((ajV699 0 49 rfl).trans ((ajV692 0 49 rfl).trans ((ajV472 0 49 rfl).trans ((ajV447 0 49 rfl).trans ((ajV399 0 49 rfl).trans ((ajV316 0 49 rfl).trans ((ajV216 0 49 rfl).trans ((ajV174 0 49 rfl).trans ((ajV93 0 49 rfl).trans (ajV11 0 49 rfl)))))))))))
                                  have r726 : 0 ≤ ((V 0 49)).toInt ∧ ((V 0 49)).toInt ≤ 10000 := hMV 0 49
                                  refine lv_istore_n (lv' := [(1, .int z716), (3, .int z695), (2, .int z466), (0, .ref (ad 0))]) hx hb dX12_partWithin_252 rfl hl (by decide) rfl (fun ls hl => ?_)
                                  refine lv_goto (tgt := 275) hx hb dX12_partWithin_253 (by decide) ?_
                                  have pq727 : (V722 0 7).toInt = ((V709 0 7)).toInt := congrArg Int32.toInt (ajV722 0 7 rfl)
                                  have pq728 : (V722 0 8).toInt = ((V709 0 8)).toInt := congrArg Int32.toInt (ajV722 0 8 rfl)
                                  have pq729 : (V722 0 50).toInt = ((V709 0 50)).toInt := congrArg Int32.toInt (ajV722 0 50 rfl)
                                  exact W.vret hx hb hr (fun t ht hW => ⟨⟨(V722, L710), rfl, ⟨hMV722, agV722, alL710, (Imp.mk (fun hp => have hp : (V722 0 8).toInt = 0 := hp; (show (V722 0 48).toInt - (V 0 48).toInt + 1 ≤ 2 * ((V722 0 7).toInt - (V 0 7).toInt) from by first | omega | ((try (have i_t471 := Imp.go t471 (by omega))); (try (have i_t470 := Imp.go t470 (by omega))); (try (have i_t470 := Imp.go t470 (by omega))); (try (have i_t471 := Imp.go t471 (by omega))); omega)))), (show (V722 0 48).toInt ≤ 8054 - 6 * (V 0 50).toInt from by first | omega | ((try (have i_t471 := Imp.go t471 (by omega))); (try (have i_t470 := Imp.go t470 (by omega))); (try (have i_t470 := Imp.go t470 (by omega))); (try (have i_t471 := Imp.go t471 (by omega))); omega)), (show (V722 0 50).toInt = (V 0 50).toInt from by first | omega | ((try (have i_t471 := Imp.go t471 (by omega))); (try (have i_t470 := Imp.go t470 (by omega))); (try (have i_t470 := Imp.go t470 (by omega))); (try (have i_t471 := Imp.go t471 (by omega))); omega)), (show (V 0 48).toInt ≤ (V722 0 48).toInt from by first | omega | ((try (have i_t471 := Imp.go t471 (by omega))); (try (have i_t470 := Imp.go t470 (by omega))); (try (have i_t470 := Imp.go t470 (by omega))); (try (have i_t471 := Imp.go t471 (by omega))); omega)), (Or.inr ⟨(show 1 ≤ (V722 0 8).toInt from by omega), (fun k => by rw [show (V722 0 8).toInt = (V472 0 8).toInt from by omega]; exact hb685 k)⟩)⟩, by rw [ht]; exact hP, va_K.moved hW.alike hK, hD⟩, hS.F ht⟩) hS.2.2 dX12_partWithin_275
                            · skip
                              have kd730 : gT.1 (gs.1 0) ≠ 146 := fun h9 => h450 (h9.trans (by decide))
                              have fz731 := RelM.rg rl451
                              have pq732 : (V447 0 8).toInt = ((V 0 8)).toInt := congrArg Int32.toInt ((ajV447 0 8 rfl).trans ((ajV399 0 8 rfl).trans ((ajV316 0 8 rfl).trans ((ajV216 0 8 rfl).trans ((ajV174 0 8 rfl).trans ((ajV93 0 8 rfl).trans (ajV11 0 8 rfl)))))))
                              refine lv_if_eq (tgt := 256) hx hb dX12_partWithin_201 (by decide) (fun c733 => ?_) (fun c733 => ?_)
                              · skip
                                have f734 : z443.toInt = 0 := b_eq rfl (by decide) c733
                                refine lv_aload_n hx hb dX12_partWithin_256 rfl (lv_at hl 0 rfl) ?_
                                refine lv_bipush (v := 19) hx hb dX12_partWithin_257 (by decide) ?_
                                have r735 : Int32.toInt 19 = 19 := by decide
                                refine gA_void (gA_runV (As := [.int 19]) (rest := []) (ci := 12) (q0 := 0) hx hb hml hown hg hP hD hK hS hA hnw hgk (s_takeWordA l D ks H.size ad kk V447 L 19 (bq) (gn) (gT) (gs) (gl) hMV447 (by decide) rl451) w2092 w2094 w100 w172 w2095 rfl rfl hdV_yX12_takeWord ⟨(by show 2 + 1 ≤ 10 * dd + 15; omega), (by show 8 + (2 + 11) + (43) ≤ 300 * dd + 500; omega)⟩ rfl hl.1 rfl (Nat.le_of_ble_eq_true rfl) dX12_partWithin_259 ⟨Nat.le_of_ble_eq_true rfl, Nat.le_of_ble_eq_true rfl⟩) hP hD hK hS hA (fun u737 H locs w738 hP hD hK hS => ?_)
                                obtain ⟨V740, L741⟩ := u737
                                obtain ⟨hMV740, ajV740, axL741, t739⟩ := w738
                                have axL741 : L = L741 := Eq.symm axL741
                                subst axL741
                                have hP : va_P D vwCl (mw ad kk ks.1 V740 L) H := hP
                                have hD : va_D A (mw ad kk ks.1 V740 L) := hD
                                have hMV740 : rgd bM V740 := hMV740
                                have ajV740 : agr [(0, 7), (0, 8)] [] V447 V740 := ajV740
                                have agV740 : agr [(0, 7), (0, 8), (0, 48), (0, 50)] [35, 36, 37, 38, 45, 46, 47] V V740 := agV447.tr ajV740 (by decide) (by decide)
                                have t739 : ((V740 0 8).toInt = 0 ∧ (gT).1 ((gs).1 0) = 128 + (Int32.toInt 19) ∧ RelM V740 L (bq) (gn) (gT) (nx (gs) 1) (gl)) ∨ (1 ≤ (V740 0 8).toInt ∧ (gT).1 ((gs).1 0) ≠ 128 + (Int32.toInt 19) ∧ (V740 0 8).toInt = 1 + 16 * (gT).2.2 ((gs).1 0)) := t739
                                rcases t739 with ⟨q742, h743, rl744⟩ | ⟨q742, h743, rl744⟩
                                · skip
                                  have kd745 : gT.1 (gs.1 0) = 147 := h743.trans (by decide)
                                  have ps746 : (nx gs 1).1 0 = gs.1 0 + 1 := rfl
                                  have fz747 := RelM.rg rl744
                                  have r748 : 0 ≤ ((V740 0 8)).toInt ∧ ((V740 0 8)).toInt ≤ 70000 := hMV740 0 8
                                  have hr749 : ∀ k, Rc gT (Crun gs (Ipart gd :: k)) (Crun gs (Ipart gd :: k)) := fun k => Rc.rf
                                  have hr750 : ∀ k, Rc gT (Crun gs (Ipart gd :: k)) (Crun (nx gs 1) (Itake 40 :: Iexpr (gd + 1) :: Itake 41 :: k)) := fun k => Rc.go1 (hr749 k) (pw_147 gd bg (by omega) kd745)
                                  refine lv_aload_n hx hb dX12_partWithin_262 rfl (lv_at hl 0 rfl) ?_
                                  have pq751 : (V740 0 48).toInt = ((V 0 48)).toInt := congrArg Int32.toInt ((ajV740 0 48 rfl).trans ((ajV447 0 48 rfl).trans ((ajV399 0 48 rfl).trans ((ajV316 0 48 rfl).trans ((ajV216 0 48 rfl).trans ((ajV174 0 48 rfl).trans ((ajV93 0 48 rfl).trans (ajV11 0 48 rfl))))))))
                                  have pq752 : (V740 0 50).toInt = ((V 0 50)).toInt := congrArg Int32.toInt ((ajV740 0 50 rfl).trans ((ajV447 0 50 rfl).trans ((ajV399 0 50 rfl).trans ((ajV316 0 50 rfl).trans ((ajV216 0 50 rfl).trans ((ajV174 0 50 rfl).trans ((ajV93 0 50 rfl).trans (ajV11 0 50 rfl))))))))
                                  refine gA_void (gA_runV (As := []) (rest := []) (ci := 12) (q0 := 0) hx hb hml hown hg hP hD hK hS hA hnw hgk (hk_s_bracketedA H.size ad kk V740 L (bq) (gn) (gT) ((nx gs 1)) (gl) ((gd + 1)) hMV740 rl744 (show (V740 0 48).toInt ≤ 2 * (V740 0 7).toInt from by omega) (show (V740 0 50).toInt = (((gd + 1)) : Int) from by omega) (show (V740 0 50).toInt + (dd : Int) = 8 from by omega) (EM.mv em ((ajV740 0 51 rfl).trans ((ajV447 0 51 rfl).trans ((ajV399 0 51 rfl).trans ((ajV316 0 51 rfl).trans ((ajV216 0 51 rfl).trans ((ajV174 0 51 rfl).trans ((ajV93 0 51 rfl).trans (ajV11 0 51 rfl)))))))) ((ajV740 0 52 rfl).trans ((ajV447 0 52 rfl).trans ((ajV399 0 52 rfl).trans ((ajV316 0 52 rfl).trans ((ajV216 0 52 rfl).trans ((ajV174 0 52 rfl).trans ((ajV93 0 52 rfl).trans (ajV11 0 52 rfl)))))))) (by rw [(funext (fun q => ajV740 27 q rfl) : V740 27 = V447 27), (funext (fun q => ajV447 27 q rfl) : V447 27 = V399 27), (funext (fun q => ajV399 27 q rfl) : V399 27 = V316 27), (funext (fun q => ajV316 27 q rfl) : V316 27 = V216 27), (funext (fun q => ajV216 27 q rfl) : V216 27 = V174 27), (funext (fun q => ajV174 27 q rfl) : V174 27 = V93 27), (funext (fun q => ajV93 27 q rfl) : V93 27 = V11 27), (funext (fun q => ajV11 27 q rfl) : V11 27 = V 27)] : V740 27 = V 27) ((keepS.tr (keepS.rf : keepS gs 0 gs) (keepS.n1 1))).2.1)) w2148 w2150 w114 w172 w2151 rfl rfl hdV_yX12_bracketed ⟨(by show 10 * dd + 14 + 1 ≤ 10 * dd + 15; omega), (by show 8 + (1 + 11) + (300 * dd + 460) ≤ 300 * dd + 500; omega)⟩ rfl hl.1 rfl (Nat.le_of_ble_eq_true rfl) dX12_partWithin_263 ⟨Nat.le_of_ble_eq_true rfl, Nat.le_of_ble_eq_true rfl⟩) hP hD hK hS hA (fun u754 H locs w755 hP hD hK hS => ?_)
                                  obtain ⟨V761, L762⟩ := u754
                                  obtain ⟨hMV761, ajV761, axL762, t756, t757, t758, t759, t760⟩ := w755
                                  have alL762 : agL [35, 36, 37, 38, 45, 46, 47] L L762 := agL.tr alL axL762 (by decide)
                                  have hP : va_P D vwCl (mw ad kk ks.1 V761 L762) H := hP
                                  have hD : va_D A (mw ad kk ks.1 V761 L762) := hD
                                  have hMV761 : rgd bM V761 := hMV761
                                  have ajV761 : agr [(0, 7), (0, 8), (0, 48), (0, 50)] [35, 36, 37, 38, 45, 46, 47] V740 V761 := ajV761
                                  have agV761 : agr [(0, 7), (0, 8), (0, 48), (0, 50)] [35, 36, 37, 38, 45, 46, 47] V V761 := agV740.tr ajV761 (by decide) (by decide)
                                  have t756 : Imp ((V761 0 8).toInt = 0) ((V761 0 48).toInt - (V740 0 48).toInt ≤ 2 * ((V761 0 7).toInt - (V740 0 7).toInt)) := t756
                                  have t757 : (V761 0 48).toInt ≤ 8052 - 6 * (V740 0 50).toInt := t757
                                  have t758 : (V761 0 50).toInt = (V740 0 50).toInt := t758
                                  have t759 : (V740 0 48).toInt ≤ (V761 0 48).toInt := t759
                                  have t760 : RdM (gT) ((nx gs 1)) (fun k => Itake 40 :: Iexpr ((gd + 1)) :: Itake 41 :: k) (fun k => k) (V761 0 8).toInt (fun s9 => RelM V761 L762 (bq) (gn) (gT) s9 (gl) ∧ keepS ((nx gs 1)) 1 s9) := t760
                                  have r763 : 0 ≤ ((V761 0 48)).toInt ∧ ((V761 0 48)).toInt ≤ 10000 := hMV761 0 48
                                  have r764 : 0 ≤ ((V761 0 8)).toInt ∧ ((V761 0 8)).toInt ≤ 70000 := hMV761 0 8
                                  have r765 : 0 ≤ ((V761 0 50)).toInt ∧ ((V761 0 50)).toInt ≤ 9 := hMV761 0 50
                                  rcases t760 with ⟨q766, sx767, h768, rl769, kp770⟩ | ⟨q766, h768⟩
                                  · skip
                                    have hr771 : ∀ k, Rc gT (Crun gs (Ipart gd :: k)) (Crun sx767 (k)) := fun k => (hr750 k).tr (h768 (k))
                                    have fz772 := RelM.rg rl769
                                    have ps773 := (kp770).1
                                    refine lv_aload_n hx hb dX12_partWithin_266 rfl (lv_at hl 0 rfl) ?_
                                    refine lv_bipush (v := 15) hx hb dX12_partWithin_267 (by decide) ?_
                                    refine lv_iconst (v := 0) hx hb dX12_partWithin_269 (by decide) ?_
                                    refine lv_iconst (v := 0) hx hb dX12_partWithin_270 (by decide) ?_
                                    have r774 : Int32.toInt 0 = 0 := by decide
                                    refine gA_int (gA_runV (As := [.int 15, .int 0, .int 0]) (rest := []) (ci := 12) (q0 := 0) hx hb hml hown hg hP hD hK hS hA hnw hgk (s_emit3 l D ks H.size ad kk V761 L762 15 0 0 hMV761 (show (V761 0 48).toInt ≤ 9999 from by first | omega | ((try (have i_t756 := Imp.go t756 (by omega))); omega))) w2136 w2138 w111 w172 w2139 rfl rfl hdV_yX12_emit ⟨(by show 0 + 1 ≤ 10 * dd + 15; omega), (by show 8 + (4 + 11) + (0) ≤ 300 * dd + 500; omega)⟩ rfl hl.1 rfl (Nat.le_of_ble_eq_true rfl) dX12_partWithin_271 ⟨Nat.le_of_ble_eq_true rfl, Nat.le_of_ble_eq_true rfl⟩) hP hD hK hS hA (fun z775 u776 H locs w777 hP hD hK hS => ?_)
                                    obtain ⟨V781, L782⟩ := u776
                                    obtain ⟨hMV781, ajV781, axL782, rgz775, t778, t779, t780⟩ := w777
                                    have axL782 : L762 = L782 := Eq.symm axL782
                                    subst axL782
                                    have hP : va_P D vwCl (mw ad kk ks.1 V781 L762) H := hP
                                    have hD : va_D A (mw ad kk ks.1 V781 L762) := hD
                                    have hMV781 : rgd bM V781 := hMV781
                                    have ajV781 : agr [(0, 48)] [45, 46, 47] V761 V781 := ajV781
                                    have agV781 : agr [(0, 7), (0, 8), (0, 48), (0, 50)] [35, 36, 37, 38, 45, 46, 47] V V781 := agV761.tr ajV781 (by decide) (by decide)
                                    have rgz775 : 0 ≤ z775.toInt ∧ z775.toInt ≤ 20000 := rgz775
                                    have t778 : (V781 0 48).toInt = (V761 0 48).toInt + 1 := t778
                                    have t779 : z775.toInt = (V761 0 49).toInt + (V761 0 48).toInt := t779
                                    have t780 : emitted V761 V781 (pA V761) 15 0 0 := t780
                                    have r783 : 0 ≤ ((V781 0 48)).toInt ∧ ((V781 0 48)).toInt ≤ 10000 := hMV781 0 48
                                    have pq784 : (V761 0 49).toInt = ((V 0 49)).toInt := congrArg Int32.toInt ((ajV761 0 49 rfl).trans ((ajV740 0 49 rfl).trans ((ajV447 0 49 rfl).trans ((ajV399 0 49 rfl).trans ((ajV316 0 49 rfl).trans ((ajV216 0 49 rfl).trans ((ajV174 0 49 rfl).trans ((ajV93 0 49 rfl).trans (ajV11 0 49 rfl)))))))))
                                    have r785 : 0 ≤ ((V 0 49)).toInt ∧ ((V 0 49)).toInt ≤ 10000 := hMV 0 49
                                    refine lv_istore_n (lv' := [(1, .int z775), (0, .ref (ad 0))]) hx hb dX12_partWithin_274 rfl hl (by decide) rfl (fun ls hl => ?_)
                                    have pq786 : (V781 0 7).toInt = ((V761 0 7)).toInt := congrArg Int32.toInt (ajV781 0 7 rfl)
                                    have pq787 : (V781 0 8).toInt = ((V761 0 8)).toInt := congrArg Int32.toInt (ajV781 0 8 rfl)
                                    have pq788 : (V781 0 50).toInt = ((V761 0 50)).toInt := congrArg Int32.toInt (ajV781 0 50 rfl)
                                    have rl789 : RelM V781 L762 bq gn gT sx767 gl := RelM.ag rl769 (show agr [(0, 48)] [45, 46, 47] V761 V781 from (agr.tr agr.rf ajV781 (by decide) (by decide))) (by decide) (show agL [] L762 L762 from agL.rf) (by decide)
                                    exact W.vret hx hb hr (fun t ht hW => ⟨⟨(V781, L762), rfl, ⟨hMV781, agV781, alL762, (Imp.mk (fun hp => have hp : (V781 0 8).toInt = 0 := hp; (show (V781 0 48).toInt - (V 0 48).toInt + 1 ≤ 2 * ((V781 0 7).toInt - (V 0 7).toInt) from by first | omega | ((try (have i_t756 := Imp.go t756 (by omega))); omega)))), (show (V781 0 48).toInt ≤ 8054 - 6 * (V 0 50).toInt from by first | omega | ((try (have i_t756 := Imp.go t756 (by omega))); omega)), (show (V781 0 50).toInt = (V 0 50).toInt from by first | omega | ((try (have i_t756 := Imp.go t756 (by omega))); omega)), (show (V 0 48).toInt ≤ (V781 0 48).toInt from by first | omega | ((try (have i_t756 := Imp.go t756 (by omega))); omega)), (Or.inl ⟨W0 rl789, sx767, hr771, rl789, keepS.le (keepS.tr (keepS.tr (keepS.rf : keepS gs 0 gs) (keepS.n1 1)) kp770) (by decide)⟩)⟩, by rw [ht]; exact hP, va_K.moved hW.alike hK, hD⟩, hS.F ht⟩) hS.2.2 dX12_partWithin_275
                                  · skip
                                    have hb790 : ∀ k, Rc gT (Crun gs (Ipart gd :: k)) (Cbad (V761 0 8).toInt) := fun k => (hr750 k).tr (h768 (k))
                                    refine lv_aload_n hx hb dX12_partWithin_266 rfl (lv_at hl 0 rfl) ?_
                                    refine lv_bipush (v := 15) hx hb dX12_partWithin_267 (by decide) ?_
                                    refine lv_iconst (v := 0) hx hb dX12_partWithin_269 (by decide) ?_
                                    refine lv_iconst (v := 0) hx hb dX12_partWithin_270 (by decide) ?_
                                    have r791 : Int32.toInt 0 = 0 := by decide
                                    refine gA_int (gA_runV (As := [.int 15, .int 0, .int 0]) (rest := []) (ci := 12) (q0 := 0) hx hb hml hown hg hP hD hK hS hA hnw hgk (s_emit3 l D ks H.size ad kk V761 L762 15 0 0 hMV761 (show (V761 0 48).toInt ≤ 9999 from by first | omega | ((try (have i_t756 := Imp.go t756 (by omega))); omega))) w2136 w2138 w111 w172 w2139 rfl rfl hdV_yX12_emit ⟨(by show 0 + 1 ≤ 10 * dd + 15; omega), (by show 8 + (4 + 11) + (0) ≤ 300 * dd + 500; omega)⟩ rfl hl.1 rfl (Nat.le_of_ble_eq_true rfl) dX12_partWithin_271 ⟨Nat.le_of_ble_eq_true rfl, Nat.le_of_ble_eq_true rfl⟩) hP hD hK hS hA (fun z792 u793 H locs w794 hP hD hK hS => ?_)
                                    obtain ⟨V798, L799⟩ := u793
                                    obtain ⟨hMV798, ajV798, axL799, rgz792, t795, t796, t797⟩ := w794
                                    have axL799 : L762 = L799 := Eq.symm axL799
                                    subst axL799
                                    have hP : va_P D vwCl (mw ad kk ks.1 V798 L762) H := hP
                                    have hD : va_D A (mw ad kk ks.1 V798 L762) := hD
                                    have hMV798 : rgd bM V798 := hMV798
                                    have ajV798 : agr [(0, 48)] [45, 46, 47] V761 V798 := ajV798
                                    have agV798 : agr [(0, 7), (0, 8), (0, 48), (0, 50)] [35, 36, 37, 38, 45, 46, 47] V V798 := agV761.tr ajV798 (by decide) (by decide)
                                    have rgz792 : 0 ≤ z792.toInt ∧ z792.toInt ≤ 20000 := rgz792
                                    have t795 : (V798 0 48).toInt = (V761 0 48).toInt + 1 := t795
                                    have t796 : z792.toInt = (V761 0 49).toInt + (V761 0 48).toInt := t796
                                    have t797 : emitted V761 V798 (pA V761) 15 0 0 := t797
                                    have r800 : 0 ≤ ((V798 0 48)).toInt ∧ ((V798 0 48)).toInt ≤ 10000 := hMV798 0 48
                                    have pq801 : (V761 0 49).toInt = ((V 0 49)).toInt := congrArg Int32.toInt ((ajV761 0 49 rfl).trans ((ajV740 0 49 rfl).trans ((ajV447 0 49 rfl).trans ((ajV399 0 49 rfl).trans ((ajV316 0 49 rfl).trans ((ajV216 0 49 rfl).trans ((ajV174 0 49 rfl).trans ((ajV93 0 49 rfl).trans (ajV11 0 49 rfl)))))))))
                                    have r802 : 0 ≤ ((V 0 49)).toInt ∧ ((V 0 49)).toInt ≤ 10000 := hMV 0 49
                                    refine lv_istore_n (lv' := [(1, .int z792), (0, .ref (ad 0))]) hx hb dX12_partWithin_274 rfl hl (by decide) rfl (fun ls hl => ?_)
                                    have pq803 : (V798 0 7).toInt = ((V761 0 7)).toInt := congrArg Int32.toInt (ajV798 0 7 rfl)
                                    have pq804 : (V798 0 8).toInt = ((V761 0 8)).toInt := congrArg Int32.toInt (ajV798 0 8 rfl)
                                    have pq805 : (V798 0 50).toInt = ((V761 0 50)).toInt := congrArg Int32.toInt (ajV798 0 50 rfl)
                                    exact W.vret hx hb hr (fun t ht hW => ⟨⟨(V798, L762), rfl, ⟨hMV798, agV798, alL762, (Imp.mk (fun hp => have hp : (V798 0 8).toInt = 0 := hp; (show (V798 0 48).toInt - (V 0 48).toInt + 1 ≤ 2 * ((V798 0 7).toInt - (V 0 7).toInt) from by first | omega | ((try (have i_t756 := Imp.go t756 (by omega))); omega)))), (show (V798 0 48).toInt ≤ 8054 - 6 * (V 0 50).toInt from by first | omega | ((try (have i_t756 := Imp.go t756 (by omega))); omega)), (show (V798 0 50).toInt = (V 0 50).toInt from by first | omega | ((try (have i_t756 := Imp.go t756 (by omega))); omega)), (show (V 0 48).toInt ≤ (V798 0 48).toInt from by first | omega | ((try (have i_t756 := Imp.go t756 (by omega))); omega)), (Or.inr ⟨(show 1 ≤ (V798 0 8).toInt from by omega), (fun k => by rw [show (V798 0 8).toInt = (V761 0 8).toInt from by omega]; exact hb790 k)⟩)⟩, by rw [ht]; exact hP, va_K.moved hW.alike hK, hD⟩, hS.F ht⟩) hS.2.2 dX12_partWithin_275
                                · skip
                                  have kd806 : gT.1 (gs.1 0) ≠ 147 := fun h9 => h743 (h9.trans (by decide))
                                  exact absurd (bg_147 bg kd5 kd82 kd164 kd389 kd206 kd306 kd437 kd730) kd806
                              · skip
                                have f807 : z443.toInt ≠ 0 := b_neq rfl (by decide) c733
                                exfalso; omega
                          · skip
                            have f808 : z395.toInt ≠ 0 := b_neq rfl (by decide) c440
                            exfalso; omega
                      · skip
                        have f809 : z312.toInt ≠ 0 := b_neq rfl (by decide) c392
                        exfalso; omega
                  · skip
                    have f810 : z212.toInt ≠ 0 := b_neq rfl (by decide) c309
                    exfalso; omega
              · skip
                have f811 : z170.toInt ≠ 0 := b_neq rfl (by decide) c209
                exfalso; omega
          · skip
            have f812 : z89.toInt ≠ 0 := b_neq rfl (by decide) c167
            exfalso; omega
      · skip
        have f813 : z7.toInt ≠ 0 := b_neq rfl (by decide) c86
        exfalso; omega
  · skip
    have f814 : ((V 4 (Int32.toNatClampNeg (V 0 7)))).toInt = 2 := b_eq rfl (by decide) c3
    have kd815 : gT.1 (gs.1 0) = 2 := (RelM.nb rel).mp (by rw [← cl0]; omega)
    refine lv_aload_n hx hb dX12_partWithin_13 rfl (lv_at hl 0 rfl) ?_
    refine lv_iconst (v := 2) hx hb dX12_partWithin_14 (by decide) ?_
    refine lv_aload_n hx hb dX12_partWithin_15 rfl (lv_at hl 0 rfl) ?_
    refine va_get (D := D) (ci := 12) (v := .ref (ad 6)) (C := RX12) (T := TX12) (N := 100) hx hb hg inX12 hown hK hP 0 rfl rfl 6 (by decide) (hg _ w1712) (fun _ h9 => h9) rfl dX12_partWithin_16 ?_
    refine lv_aload_n hx hb dX12_partWithin_19 rfl (lv_at hl 0 rfl) ?_
    refine va_get (D := D) (ci := 12) (v := .int (V 0 7)) (C := RX12) (T := TX12) (N := 100) hx hb hg inX12 hown hK hP 0 rfl rfl 7 (by decide) (hg _ w1713) (fun _ h9 => h9) rfl dX12_partWithin_20 ?_
    refine va_lald (D := D) (i := (V 0 7)) hx hb hK hP 4 3 rfl rfl (i_in (a := ((V 0 7)).toInt) rfl (by omega)) dX12_partWithin_23 ?_
    refine lv_l2i hx hb dX12_partWithin_24 rfl ?_
    refine lv_topi (fun z816 ez816 => ?_)
    have hz816 := l2i_f ez816
    refine lv_iconst (v := 0) hx hb dX12_partWithin_25 (by decide) ?_
    have r817 : Int32.toInt 2 = 2 := by decide
    have r818 : Int32.toInt 0 = 0 := by decide
    refine gA_int (gA_runV (As := [.int 2, .int z816, .int 0]) (rest := []) (ci := 12) (q0 := 0) hx hb hml hown hg hP hD hK hS hA hnw hgk (s_emit3 l D ks H.size ad kk V L 2 z816 0 hMV (show (V 0 48).toInt ≤ 9999 from by first | omega | ((try (have i_hz816 := Imp.go hz816 (by omega))); omega))) w2136 w2138 w111 w172 w2139 rfl rfl hdV_yX12_emit ⟨(by show 0 + 1 ≤ 10 * dd + 15; omega), (by show 8 + (4 + 11) + (0) ≤ 300 * dd + 500; omega)⟩ rfl hl.1 rfl (Nat.le_of_ble_eq_true rfl) dX12_partWithin_26 ⟨Nat.le_of_ble_eq_true rfl, Nat.le_of_ble_eq_true rfl⟩) hP hD hK hS hA (fun z819 u820 H locs w821 hP hD hK hS => ?_)
    obtain ⟨V825, L826⟩ := u820
    obtain ⟨hMV825, ajV825, axL826, rgz819, t822, t823, t824⟩ := w821
    have axL826 : L = L826 := Eq.symm axL826
    subst axL826
    have hP : va_P D vwCl (mw ad kk ks.1 V825 L) H := hP
    have hD : va_D A (mw ad kk ks.1 V825 L) := hD
    have hMV825 : rgd bM V825 := hMV825
    have ajV825 : agr [(0, 48)] [45, 46, 47] V V825 := ajV825
    have agV825 : agr [(0, 7), (0, 8), (0, 48), (0, 50)] [35, 36, 37, 38, 45, 46, 47] V V825 := agV.tr ajV825 (by decide) (by decide)
    have rgz819 : 0 ≤ z819.toInt ∧ z819.toInt ≤ 20000 := rgz819
    have t822 : (V825 0 48).toInt = (V 0 48).toInt + 1 := t822
    have t823 : z819.toInt = (V 0 49).toInt + (V 0 48).toInt := t823
    have t824 : emitted V V825 (pA V) 2 z816 0 := t824
    have r827 : 0 ≤ ((V825 0 48)).toInt ∧ ((V825 0 48)).toInt ≤ 10000 := hMV825 0 48
    have r828 : 0 ≤ ((V 0 49)).toInt ∧ ((V 0 49)).toInt ≤ 10000 := hMV 0 49
    refine lv_istore_n (lv' := [(1, .int z819), (0, .ref (ad 0))]) hx hb dX12_partWithin_29 rfl hl (by decide) rfl (fun ls hl => ?_)
    refine lv_aload_n hx hb dX12_partWithin_30 rfl (lv_at hl 1 rfl) ?_
    refine lv_dup hx hb dX12_partWithin_31 rfl ?_
    refine va_get (D := D) (ci := 12) (v := .int (V825 0 7)) (C := RX12) (T := TX12) (N := 100) hx hb hg inX12 hown hK hP 0 rfl rfl 7 (by decide) (hg _ w1713) (fun _ h9 => h9) rfl dX12_partWithin_32 ?_
    refine g_top (v := (V 0 7)) (ajV825 0 7 rfl) ?_
    refine lv_iconst (v := 1) hx hb dX12_partWithin_35 (by decide) ?_
    refine lv_iadd hx hb dX12_partWithin_36 ?_
    refine lv_topi (fun z829 ez829 => ?_)
    have hz829 : z829.toInt = ((V 0 7)).toInt + 1 := i_add ez829 rfl (by decide) (by omega)
    have rl830 : RelM V825 L bq gn gT gs gl := RelM.ag rel (show agr [(0, 48)] [45, 46, 47] V V825 from (agr.tr agr.rf ajV825 (by decide) (by decide))) (by decide) (show agL [] L L from agL.rf) (by decide)
    refine va_put (D := D) (ci := 12) (v := .int z829) (ty := tyX12 7) (C := RX12) (T := TX12) (N := 100) hx hb hg inX12 tyX12 tyX12_ok nmX12 hown hK hP hD hS 0 rfl rfl 7 (by decide) (hg _ w1713) (fun _ h9 => h9) rfl (tyX12_ok 7 (by decide)) rfl rfl (Nat.le_of_ble_eq_true rfl) dX12_partWithin_37 (fun H locs hP hD hS => ?_)
    obtain ⟨V831, hV831⟩ : ∃ z, z = up2 V825 0 7 z829 := ⟨_, rfl⟩
    have hP : va_P D vwCl (mw ad kk ks.1 V831 L) H := by rw [hV831]; exact hP
    have hD : va_D A (mw ad kk ks.1 V831 L) := by rw [hV831]; exact hD
    have hMV831 : rgd bM V831 := hMV825.put hV831 (i_full _)
    have agV831 : agr [(0, 7), (0, 8), (0, 48), (0, 50)] [35, 36, 37, 38, 45, 46, 47] V V831 := agV825.up hV831 rfl
    have pq832 : (V825 0 7).toInt = ((V 0 7)).toInt := congrArg Int32.toInt (ajV825 0 7 rfl)
    have hr833 : ∀ k, Rc gT (Crun gs (Ipart gd :: k)) (Crun gs (Ipart gd :: k)) := fun k => Rc.rf
    have hr834 : ∀ k, Rc gT (Crun gs (Ipart gd :: k)) (Crun (nx gs 1) (k)) := fun k => Rc.go1 (hr833 k) (pw_2 gd bg (by omega) kd815)
    have rl835 : RelM V831 L bq gn gT (nx gs 1) gl := RelM.n1 rl830 hV831 (by omega) (by rw [kd815]; decide)
    have ps836 : (nx gs 1).1 0 = gs.1 0 + 1 := rfl
    have fz837 := RelM.rg rl835
    have pq838 : (V831 0 8).toInt = ((V 0 8)).toInt := congrArg Int32.toInt ((up2_k hV831 (by decide)).trans (ajV825 0 8 rfl))
    have r839 : 0 ≤ ((V 0 8)).toInt ∧ ((V 0 8)).toInt ≤ 70000 := hMV 0 8
    have pq840 : (V831 0 7).toInt = z829.toInt := congrArg Int32.toInt (up2_s hV831)
    refine lv_goto (tgt := 275) hx hb dX12_partWithin_40 (by decide) ?_
    have pq841 : (V831 0 48).toInt = ((V825 0 48)).toInt := congrArg Int32.toInt (up2_k hV831 (by decide))
    have pq842 : (V831 0 50).toInt = ((V 0 50)).toInt := congrArg Int32.toInt ((up2_k hV831 (by decide)).trans (ajV825 0 50 rfl))
    exact W.vret hx hb hr (fun t ht hW => ⟨⟨(V831, L), rfl, ⟨hMV831, agV831, alL, (Imp.mk (fun hp => have hp : (V831 0 8).toInt = 0 := hp; (show (V831 0 48).toInt - (V 0 48).toInt + 1 ≤ 2 * ((V831 0 7).toInt - (V 0 7).toInt) from by first | omega | ((try (have i_hz816 := Imp.go hz816 (by omega))); omega)))), (show (V831 0 48).toInt ≤ 8054 - 6 * (V 0 50).toInt from by first | omega | ((try (have i_hz816 := Imp.go hz816 (by omega))); omega)), (show (V831 0 50).toInt = (V 0 50).toInt from by first | omega | ((try (have i_hz816 := Imp.go hz816 (by omega))); omega)), (show (V 0 48).toInt ≤ (V831 0 48).toInt from by first | omega | ((try (have i_hz816 := Imp.go hz816 (by omega))); omega)), (Or.inl ⟨W0 rl835, (nx gs 1), hr834, rl835, keepS.le (keepS.tr (keepS.rf : keepS gs 0 gs) (keepS.n1 1)) (by decide)⟩)⟩, by rw [ht]; exact hP, va_K.moved hW.alike hK, hD⟩, hS.F ht⟩) hS.2.2 dX12_partWithin_275
theorem K_partA {l : Launch} {D : va_G} {ks : KS} : ∀ dd, K_s_partA l D ks dd
  | 0 => s_partA (fun d9 h => absurd h (by omega))
  | d + 1 => by
    refine s_partA (fun d9 h => ?_)
    have e : d9 = d := by omega
    subst e
    have k1 := K_partA (l := l) (D := D) (ks := ks) d9
    have k4 := s_expressionA (s_sumA (s_productA k1))
    exact s_partWithinA k4 k1 (s_bracketedA k4) (s_pickA k4)
theorem K_exprA {l : Launch} {D : va_G} {ks : KS} (dd : Nat) : K_s_expressionA l D ks dd := s_expressionA (s_sumA (s_productA (K_partA dd)))
