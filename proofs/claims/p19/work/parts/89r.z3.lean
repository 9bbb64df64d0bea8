
abbrev r_s_isPartA : Room := { frames := 1, cells := 0, slots := 0, locals := 21 }
abbrev q_s_isPartA (D : va_G) (ks : KS) (ad : Nat → Nat) (kk : Nat → ClassId) (V : Vf) (L : Lf) (bq : Nat) (gn : Nat) (gT : Tk) (gs : St) (gl : List Int64) (A : Nat → Prop) : Array Value → State → Outcome → State → Prop := va_Qi (fun (r : Int32) (_ : Unit) => (0 ≤ r.toInt ∧ r.toInt ≤ 1) ∧ ((r.toInt = 1 ∧ bgP gT gs) ∨ (r.toInt = 0 ∧ ¬ bgP gT gs))) (fun _ t => gq D A (mw ad kk ks.1 V L) (mty kk) t) A
set_option maxHeartbeats 4000000 in
set_option maxRecDepth 100000 in
theorem s_isPartA (l : Launch) (D : va_G) (ks : KS) (sz : Nat) (ad : Nat → Nat) (kk : Nat → ClassId) (V : Vf) (L : Lf) (bq : Nat) (gn : Nat) (gT : Tk) (gs : St) (gl : List Int64) (hMV : rgd bM V) (rel : RelM V L bq gn gT gs gl) (em : EM V gs)  : Met l yX12_isPart (Cond.code yX12_isPart cX12_isPart 1 (some .boolean) :: GW) r_s_isPartA (va_Pc [.ref (ad 0)] (gp D ks (mw ad kk ks.1 V L) (mty kk) sz)) (q_s_isPartA D ks ad kk V L  bq gn gT gs gl (va_A (mw ad kk ks.1 V L) sz)) 0 0 (va_A (mw ad kk ks.1 V L) sz) := by
  refine g_met (q_s_isPartA D ks ad kk V L  bq gn gT gs gl) (by decide) (Nat.le_of_ble_eq_true rfl) ?_
  intro p e s m below meth c A ls H locs hx hb hr hml hown hg hlocks hin hnw hgk hP hK hD hS hA hl
  have hown : s.vm.findClass RX12 = some m.cls := hown
  have hl : lv_has ls 1 [(0, .ref (ad 0))] := hl
  have hP : va_P D vwCl (mw ad kk ks.1 V L) H := hP
  have hD : va_D A (mw ad kk ks.1 V L) := hD
  have hK : va_K D vwCl (mty kk) s := hK
  have rg0 := RelM.rg rel
  have cl0 := RelM.cl rel
  have cq0 := RelM.cq rel
  refine lv_aload_n hx hb dX12_isPart_0 rfl (lv_at hl 0 rfl) ?_
  refine va_get (D := D) (ci := 12) (v := .int (V 0 8)) (C := RX12) (T := TX12) (N := 100) hx hb hg inX12 hown hK hP 0 rfl rfl 8 (by decide) (hg _ w1714) (fun _ h9 => h9) rfl dX12_isPart_1 ?_
  have r1 : 0 ≤ ((V 0 8)).toInt ∧ ((V 0 8)).toInt ≤ 70000 := hMV 0 8
  refine lv_if_ne (tgt := 109) hx hb dX12_isPart_4 (by decide) (fun c2 => ?_) (fun c2 => ?_)
  · skip
    have f3 : ((V 0 8)).toInt ≠ 0 := b_neq rfl (by decide) c2
    exfalso; (first | exact om_0b51723c7ef6 rg0.2.2.1 f3 | omega)
  · skip
    have f4 : ((V 0 8)).toInt = 0 := b_eq rfl (by decide) c2
    refine lv_aload_n hx hb dX12_isPart_7 rfl (lv_at hl 0 rfl) ?_
    refine va_get (D := D) (ci := 12) (v := .ref (ad 4)) (C := RX12) (T := TX12) (N := 100) hx hb hg inX12 hown hK hP 0 rfl rfl 4 (by decide) (hg _ w1710) (fun _ h9 => h9) rfl dX12_isPart_8 ?_
    refine lv_aload_n hx hb dX12_isPart_11 rfl (lv_at hl 0 rfl) ?_
    refine va_get (D := D) (ci := 12) (v := .int (V 0 7)) (C := RX12) (T := TX12) (N := 100) hx hb hg inX12 hown hK hP 0 rfl rfl 7 (by decide) (hg _ w1713) (fun _ h9 => h9) rfl dX12_isPart_12 ?_
    refine va_iald (D := D) (i := (V 0 7)) hx hb hK hP 2 1 rfl rfl (i_in (a := ((V 0 7)).toInt) rfl (by omega)) dX12_isPart_15 ?_
    refine lv_iconst (v := 2) hx hb dX12_isPart_16 (by decide) ?_
    refine lv_icmp_eq (tgt := 105) hx hb dX12_isPart_17 (by decide) (fun c5 => ?_) (fun c5 => ?_)
    · skip
      have f6 : ((V 4 (Int32.toNatClampNeg (V 0 7)))).toInt = 2 := b_eq rfl (by decide) c5
      refine lv_iconst (v := 1) hx hb dX12_isPart_105 (by decide) ?_
      refine lv_goto (tgt := 110) hx hb dX12_isPart_106 (by decide) ?_
      exact W.zret (v := 1) hx hb hr rfl (fun t ht hW => ⟨⟨1, (), rfl, ⟨(by decide), (Or.inl ⟨rfl, Or.inl ((RelM.nb rel).mp (by rw [← cl0]; omega))⟩)⟩, by rw [ht]; exact hP, va_K.moved hW.alike hK, hD⟩, hS.F ht⟩) hS.2.2 dX12_isPart_110
    · skip
      have f7 : ((V 4 (Int32.toNatClampNeg (V 0 7)))).toInt ≠ 2 := b_neq rfl (by decide) c5
      have kd8 : gT.1 (gs.1 0) ≠ 2 := fun h9 => by have z := (RelM.nb rel).mpr h9; rw [← cl0] at z; omega
      refine lv_aload_n hx hb dX12_isPart_20 rfl (lv_at hl 0 rfl) ?_
      refine lv_bipush (v := 40) hx hb dX12_isPart_21 (by decide) ?_
      have r9 : Int32.toInt 40 = 40 := by decide
      refine gA_int (gA_runV (As := [.int 40]) (rest := []) (ci := 12) (q0 := 0) hx hb hml hown hg hP hD hK hS hA hnw hgk (s_isSignA l D ks H.size ad kk V L 40 (bq) (gn) (gT) (gs) (gl) hMV rel (sg_yes (j := 40) (by decide) (by decide) (by decide))) w2071 w2073 w95 w172 w2074 rfl rfl hdV_yX12_isSign ⟨Nat.le_of_ble_eq_true rfl, Nat.le_of_ble_eq_true rfl⟩ rfl hl.1 rfl (Nat.le_of_ble_eq_true rfl) dX12_isPart_23 ⟨Nat.le_of_ble_eq_true rfl, Nat.le_of_ble_eq_true rfl⟩) hP hD hK hS hA (fun z10 u11 H locs w12 hP hD hK hS => ?_)
      obtain ⟨rgz10, t13⟩ := w12
      have rgz10 : 0 ≤ z10.toInt ∧ z10.toInt ≤ 1 := rgz10
      have t13 : (z10.toInt = 1 ∧ (gT).1 ((gs).1 0) = (Int32.toInt 40)) ∨ (z10.toInt = 0 ∧ (gT).1 ((gs).1 0) ≠ (Int32.toInt 40)) := t13
      rcases t13 with ⟨q14, h15⟩ | ⟨q14, h15⟩
      · skip
        have kd16 : gT.1 (gs.1 0) = 40 := h15.trans (by decide)
        refine lv_if_ne (tgt := 105) hx hb dX12_isPart_26 (by decide) (fun c17 => ?_) (fun c17 => ?_)
        · skip
          have f18 : z10.toInt ≠ 0 := b_neq rfl (by decide) c17
          refine lv_iconst (v := 1) hx hb dX12_isPart_105 (by decide) ?_
          refine lv_goto (tgt := 110) hx hb dX12_isPart_106 (by decide) ?_
          exact W.zret (v := 1) hx hb hr rfl (fun t ht hW => ⟨⟨1, (), rfl, ⟨(by decide), (Or.inl ⟨rfl, Or.inr (Or.inr (Or.inl kd16))⟩)⟩, by rw [ht]; exact hP, va_K.moved hW.alike hK, hD⟩, hS.F ht⟩) hS.2.2 dX12_isPart_110
        · skip
          have f19 : z10.toInt = 0 := b_eq rfl (by decide) c17
          exfalso; (first | exact om_495ee03a60ae q14 f19 | omega)
      · skip
        have kd20 : gT.1 (gs.1 0) ≠ 40 := fun h9 => h15 (h9.trans (by decide))
        refine lv_if_ne (tgt := 105) hx hb dX12_isPart_26 (by decide) (fun c21 => ?_) (fun c21 => ?_)
        · skip
          have f22 : z10.toInt ≠ 0 := b_neq rfl (by decide) c21
          exfalso; (first | exact om_fb320d7600b7 rgz10.1 q14 f22 | omega)
        · skip
          have f23 : z10.toInt = 0 := b_eq rfl (by decide) c21
          refine lv_aload_n hx hb dX12_isPart_29 rfl (lv_at hl 0 rfl) ?_
          refine lv_bipush (v := 45) hx hb dX12_isPart_30 (by decide) ?_
          have r24 : Int32.toInt 45 = 45 := by decide
          refine gA_int (gA_runV (As := [.int 45]) (rest := []) (ci := 12) (q0 := 0) hx hb hml hown hg hP hD hK hS hA hnw hgk (s_isSignA l D ks H.size ad kk V L 45 (bq) (gn) (gT) (gs) (gl) hMV rel (sg_yes (j := 45) (by decide) (by decide) (by decide))) w2071 w2073 w95 w172 w2074 rfl rfl hdV_yX12_isSign ⟨Nat.le_of_ble_eq_true rfl, Nat.le_of_ble_eq_true rfl⟩ rfl hl.1 rfl (Nat.le_of_ble_eq_true rfl) dX12_isPart_32 ⟨Nat.le_of_ble_eq_true rfl, Nat.le_of_ble_eq_true rfl⟩) hP hD hK hS hA (fun z25 u26 H locs w27 hP hD hK hS => ?_)
          obtain ⟨rgz25, t28⟩ := w27
          have rgz25 : 0 ≤ z25.toInt ∧ z25.toInt ≤ 1 := rgz25
          have t28 : (z25.toInt = 1 ∧ (gT).1 ((gs).1 0) = (Int32.toInt 45)) ∨ (z25.toInt = 0 ∧ (gT).1 ((gs).1 0) ≠ (Int32.toInt 45)) := t28
          rcases t28 with ⟨q29, h30⟩ | ⟨q29, h30⟩
          · skip
            have kd31 : gT.1 (gs.1 0) = 45 := h30.trans (by decide)
            refine lv_if_ne (tgt := 105) hx hb dX12_isPart_35 (by decide) (fun c32 => ?_) (fun c32 => ?_)
            · skip
              have f33 : z25.toInt ≠ 0 := b_neq rfl (by decide) c32
              refine lv_iconst (v := 1) hx hb dX12_isPart_105 (by decide) ?_
              refine lv_goto (tgt := 110) hx hb dX12_isPart_106 (by decide) ?_
              exact W.zret (v := 1) hx hb hr rfl (fun t ht hW => ⟨⟨1, (), rfl, ⟨(by decide), (Or.inl ⟨rfl, Or.inr (Or.inr (Or.inr (Or.inl kd31)))⟩)⟩, by rw [ht]; exact hP, va_K.moved hW.alike hK, hD⟩, hS.F ht⟩) hS.2.2 dX12_isPart_110
            · skip
              have f34 : z25.toInt = 0 := b_eq rfl (by decide) c32
              exfalso; (first | exact om_495ee03a60ae q29 f34 | omega)
          · skip
            have kd35 : gT.1 (gs.1 0) ≠ 45 := fun h9 => h30 (h9.trans (by decide))
            refine lv_if_ne (tgt := 105) hx hb dX12_isPart_35 (by decide) (fun c36 => ?_) (fun c36 => ?_)
            · skip
              have f37 : z25.toInt ≠ 0 := b_neq rfl (by decide) c36
              exfalso; (first | exact om_fb320d7600b7 rgz25.1 q29 f37 | omega)
            · skip
              have f38 : z25.toInt = 0 := b_eq rfl (by decide) c36
              refine lv_aload_n hx hb dX12_isPart_38 rfl (lv_at hl 0 rfl) ?_
              refine lv_bipush (v := 15) hx hb dX12_isPart_39 (by decide) ?_
              have r39 : Int32.toInt 15 = 15 := by decide
              refine gA_int (gA_runV (As := [.int 15]) (rest := []) (ci := 12) (q0 := 0) hx hb hml hown hg hP hD hK hS hA hnw hgk (s_isWordA l D ks H.size ad kk V L 15 (bq) (gn) (gT) (gs) (gl) hMV (by decide) rel) w2023 w2025 w83 w172 w2026 rfl rfl hdV_yX12_isWord ⟨Nat.le_of_ble_eq_true rfl, Nat.le_of_ble_eq_true rfl⟩ rfl hl.1 rfl (Nat.le_of_ble_eq_true rfl) dX12_isPart_41 ⟨Nat.le_of_ble_eq_true rfl, Nat.le_of_ble_eq_true rfl⟩) hP hD hK hS hA (fun z40 u41 H locs w42 hP hD hK hS => ?_)
              obtain ⟨rgz40, t43⟩ := w42
              have rgz40 : 0 ≤ z40.toInt ∧ z40.toInt ≤ 1 := rgz40
              have t43 : (z40.toInt = 1 ∧ (gT).1 ((gs).1 0) = 128 + (Int32.toInt 15)) ∨ (z40.toInt = 0 ∧ (gT).1 ((gs).1 0) ≠ 128 + (Int32.toInt 15)) := t43
              rcases t43 with ⟨q44, h45⟩ | ⟨q44, h45⟩
              · skip
                have kd46 : gT.1 (gs.1 0) = 143 := h45.trans (by decide)
                refine lv_if_ne (tgt := 105) hx hb dX12_isPart_44 (by decide) (fun c47 => ?_) (fun c47 => ?_)
                · skip
                  have f48 : z40.toInt ≠ 0 := b_neq rfl (by decide) c47
                  refine lv_iconst (v := 1) hx hb dX12_isPart_105 (by decide) ?_
                  refine lv_goto (tgt := 110) hx hb dX12_isPart_106 (by decide) ?_
                  exact W.zret (v := 1) hx hb hr rfl (fun t ht hW => ⟨⟨1, (), rfl, ⟨(by decide), (Or.inl ⟨rfl, Or.inr (Or.inl kd46)⟩)⟩, by rw [ht]; exact hP, va_K.moved hW.alike hK, hD⟩, hS.F ht⟩) hS.2.2 dX12_isPart_110
                · skip
                  have f49 : z40.toInt = 0 := b_eq rfl (by decide) c47
                  exfalso; (first | exact om_495ee03a60ae q44 f49 | omega)
              · skip
                have kd50 : gT.1 (gs.1 0) ≠ 143 := fun h9 => h45 (h9.trans (by decide))
                refine lv_if_ne (tgt := 105) hx hb dX12_isPart_44 (by decide) (fun c51 => ?_) (fun c51 => ?_)
                · skip
                  have f52 : z40.toInt ≠ 0 := b_neq rfl (by decide) c51
                  exfalso; (first | exact om_fb320d7600b7 rgz40.1 q44 f52 | omega)
                · skip
                  have f53 : z40.toInt = 0 := b_eq rfl (by decide) c51
                  refine lv_aload_n hx hb dX12_isPart_47 rfl (lv_at hl 0 rfl) ?_
                  refine lv_bipush (v := 16) hx hb dX12_isPart_48 (by decide) ?_
                  have r54 : Int32.toInt 16 = 16 := by decide
                  refine gA_int (gA_runV (As := [.int 16]) (rest := []) (ci := 12) (q0 := 0) hx hb hml hown hg hP hD hK hS hA hnw hgk (s_isWordA l D ks H.size ad kk V L 16 (bq) (gn) (gT) (gs) (gl) hMV (by decide) rel) w2023 w2025 w83 w172 w2026 rfl rfl hdV_yX12_isWord ⟨Nat.le_of_ble_eq_true rfl, Nat.le_of_ble_eq_true rfl⟩ rfl hl.1 rfl (Nat.le_of_ble_eq_true rfl) dX12_isPart_50 ⟨Nat.le_of_ble_eq_true rfl, Nat.le_of_ble_eq_true rfl⟩) hP hD hK hS hA (fun z55 u56 H locs w57 hP hD hK hS => ?_)
                  obtain ⟨rgz55, t58⟩ := w57
                  have rgz55 : 0 ≤ z55.toInt ∧ z55.toInt ≤ 1 := rgz55
                  have t58 : (z55.toInt = 1 ∧ (gT).1 ((gs).1 0) = 128 + (Int32.toInt 16)) ∨ (z55.toInt = 0 ∧ (gT).1 ((gs).1 0) ≠ 128 + (Int32.toInt 16)) := t58
                  rcases t58 with ⟨q59, h60⟩ | ⟨q59, h60⟩
                  · skip
                    have kd61 : gT.1 (gs.1 0) = 144 := h60.trans (by decide)
                    refine lv_if_ne (tgt := 105) hx hb dX12_isPart_53 (by decide) (fun c62 => ?_) (fun c62 => ?_)
                    · skip
                      have f63 : z55.toInt ≠ 0 := b_neq rfl (by decide) c62
                      refine lv_iconst (v := 1) hx hb dX12_isPart_105 (by decide) ?_
                      refine lv_goto (tgt := 110) hx hb dX12_isPart_106 (by decide) ?_
                      exact W.zret (v := 1) hx hb hr rfl (fun t ht hW => ⟨⟨1, (), rfl, ⟨(by decide), (Or.inl ⟨rfl, Or.inr (Or.inr (Or.inr (Or.inr (Or.inl kd61))))⟩)⟩, by rw [ht]; exact hP, va_K.moved hW.alike hK, hD⟩, hS.F ht⟩) hS.2.2 dX12_isPart_110
                    · skip
                      have f64 : z55.toInt = 0 := b_eq rfl (by decide) c62
                      exfalso; (first | exact om_495ee03a60ae q59 f64 | omega)
                  · skip
                    have kd65 : gT.1 (gs.1 0) ≠ 144 := fun h9 => h60 (h9.trans (by decide))
                    refine lv_if_ne (tgt := 105) hx hb dX12_isPart_53 (by decide) (fun c66 => ?_) (fun c66 => ?_)
                    · skip
                      have f67 : z55.toInt ≠ 0 := b_neq rfl (by decide) c66
                      exfalso; (first | exact om_fb320d7600b7 rgz55.1 q59 f67 | omega)
                    · skip
                      have f68 : z55.toInt = 0 := b_eq rfl (by decide) c66
                      refine lv_aload_n hx hb dX12_isPart_56 rfl (lv_at hl 0 rfl) ?_
                      refine lv_iconst (v := 2) hx hb dX12_isPart_57 (by decide) ?_
                      have r69 : Int32.toInt 2 = 2 := by decide
                      refine gA_int (gA_runV (As := [.int 2]) (rest := []) (ci := 12) (q0 := 0) hx hb hml hown hg hP hD hK hS hA hnw hgk (s_isWordA l D ks H.size ad kk V L 2 (bq) (gn) (gT) (gs) (gl) hMV (by decide) rel) w2023 w2025 w83 w172 w2026 rfl rfl hdV_yX12_isWord ⟨Nat.le_of_ble_eq_true rfl, Nat.le_of_ble_eq_true rfl⟩ rfl hl.1 rfl (Nat.le_of_ble_eq_true rfl) dX12_isPart_58 ⟨Nat.le_of_ble_eq_true rfl, Nat.le_of_ble_eq_true rfl⟩) hP hD hK hS hA (fun z70 u71 H locs w72 hP hD hK hS => ?_)
                      obtain ⟨rgz70, t73⟩ := w72
                      have rgz70 : 0 ≤ z70.toInt ∧ z70.toInt ≤ 1 := rgz70
                      have t73 : (z70.toInt = 1 ∧ (gT).1 ((gs).1 0) = 128 + (Int32.toInt 2)) ∨ (z70.toInt = 0 ∧ (gT).1 ((gs).1 0) ≠ 128 + (Int32.toInt 2)) := t73
                      rcases t73 with ⟨q74, h75⟩ | ⟨q74, h75⟩
                      · skip
                        have kd76 : gT.1 (gs.1 0) = 130 := h75.trans (by decide)
                        refine lv_if_ne (tgt := 105) hx hb dX12_isPart_61 (by decide) (fun c77 => ?_) (fun c77 => ?_)
                        · skip
                          have f78 : z70.toInt ≠ 0 := b_neq rfl (by decide) c77
                          refine lv_iconst (v := 1) hx hb dX12_isPart_105 (by decide) ?_
                          refine lv_goto (tgt := 110) hx hb dX12_isPart_106 (by decide) ?_
                          exact W.zret (v := 1) hx hb hr rfl (fun t ht hW => ⟨⟨1, (), rfl, ⟨(by decide), (Or.inl ⟨rfl, Or.inr (Or.inr (Or.inr (Or.inr (Or.inr (Or.inl kd76)))))⟩)⟩, by rw [ht]; exact hP, va_K.moved hW.alike hK, hD⟩, hS.F ht⟩) hS.2.2 dX12_isPart_110
                        · skip
                          have f79 : z70.toInt = 0 := b_eq rfl (by decide) c77
                          exfalso; (first | exact om_495ee03a60ae q74 f79 | omega)
                      · skip
                        have kd80 : gT.1 (gs.1 0) ≠ 130 := fun h9 => h75 (h9.trans (by decide))
                        refine lv_if_ne (tgt := 105) hx hb dX12_isPart_61 (by decide) (fun c81 => ?_) (fun c81 => ?_)
                        · skip
                          have f82 : z70.toInt ≠ 0 := b_neq rfl (by decide) c81
                          exfalso; (first | exact om_fb320d7600b7 rgz70.1 q74 f82 | omega)
                        · skip
                          have f83 : z70.toInt = 0 := b_eq rfl (by decide) c81
                          refine lv_aload_n hx hb dX12_isPart_64 rfl (lv_at hl 0 rfl) ?_
                          refine lv_bipush (v := 17) hx hb dX12_isPart_65 (by decide) ?_
                          have r84 : Int32.toInt 17 = 17 := by decide
                          refine gA_int (gA_runV (As := [.int 17]) (rest := []) (ci := 12) (q0 := 0) hx hb hml hown hg hP hD hK hS hA hnw hgk (s_isWordA l D ks H.size ad kk V L 17 (bq) (gn) (gT) (gs) (gl) hMV (by decide) rel) w2023 w2025 w83 w172 w2026 rfl rfl hdV_yX12_isWord ⟨Nat.le_of_ble_eq_true rfl, Nat.le_of_ble_eq_true rfl⟩ rfl hl.1 rfl (Nat.le_of_ble_eq_true rfl) dX12_isPart_67 ⟨Nat.le_of_ble_eq_true rfl, Nat.le_of_ble_eq_true rfl⟩) hP hD hK hS hA (fun z85 u86 H locs w87 hP hD hK hS => ?_)
                          obtain ⟨rgz85, t88⟩ := w87
                          have rgz85 : 0 ≤ z85.toInt ∧ z85.toInt ≤ 1 := rgz85
                          have t88 : (z85.toInt = 1 ∧ (gT).1 ((gs).1 0) = 128 + (Int32.toInt 17)) ∨ (z85.toInt = 0 ∧ (gT).1 ((gs).1 0) ≠ 128 + (Int32.toInt 17)) := t88
                          rcases t88 with ⟨q89, h90⟩ | ⟨q89, h90⟩
                          · skip
                            have kd91 : gT.1 (gs.1 0) = 145 := h90.trans (by decide)
                            refine lv_if_ne (tgt := 105) hx hb dX12_isPart_70 (by decide) (fun c92 => ?_) (fun c92 => ?_)
                            · skip
                              have f93 : z85.toInt ≠ 0 := b_neq rfl (by decide) c92
                              refine lv_iconst (v := 1) hx hb dX12_isPart_105 (by decide) ?_
                              refine lv_goto (tgt := 110) hx hb dX12_isPart_106 (by decide) ?_
                              exact W.zret (v := 1) hx hb hr rfl (fun t ht hW => ⟨⟨1, (), rfl, ⟨(by decide), (Or.inl ⟨rfl, Or.inr (Or.inr (Or.inr (Or.inr (Or.inr (Or.inr (Or.inl kd91))))))⟩)⟩, by rw [ht]; exact hP, va_K.moved hW.alike hK, hD⟩, hS.F ht⟩) hS.2.2 dX12_isPart_110
                            · skip
                              have f94 : z85.toInt = 0 := b_eq rfl (by decide) c92
                              exfalso; (first | exact om_495ee03a60ae q89 f94 | omega)
                          · skip
                            have kd95 : gT.1 (gs.1 0) ≠ 145 := fun h9 => h90 (h9.trans (by decide))
                            refine lv_if_ne (tgt := 105) hx hb dX12_isPart_70 (by decide) (fun c96 => ?_) (fun c96 => ?_)
                            · skip
                              have f97 : z85.toInt ≠ 0 := b_neq rfl (by decide) c96
                              exfalso; (first | exact om_fb320d7600b7 rgz85.1 q89 f97 | omega)
                            · skip
                              have f98 : z85.toInt = 0 := b_eq rfl (by decide) c96
                              refine lv_aload_n hx hb dX12_isPart_73 rfl (lv_at hl 0 rfl) ?_
                              refine lv_bipush (v := 18) hx hb dX12_isPart_74 (by decide) ?_
                              have r99 : Int32.toInt 18 = 18 := by decide
                              refine gA_int (gA_runV (As := [.int 18]) (rest := []) (ci := 12) (q0 := 0) hx hb hml hown hg hP hD hK hS hA hnw hgk (s_isWordA l D ks H.size ad kk V L 18 (bq) (gn) (gT) (gs) (gl) hMV (by decide) rel) w2023 w2025 w83 w172 w2026 rfl rfl hdV_yX12_isWord ⟨Nat.le_of_ble_eq_true rfl, Nat.le_of_ble_eq_true rfl⟩ rfl hl.1 rfl (Nat.le_of_ble_eq_true rfl) dX12_isPart_76 ⟨Nat.le_of_ble_eq_true rfl, Nat.le_of_ble_eq_true rfl⟩) hP hD hK hS hA (fun z100 u101 H locs w102 hP hD hK hS => ?_)
                              obtain ⟨rgz100, t103⟩ := w102
                              have rgz100 : 0 ≤ z100.toInt ∧ z100.toInt ≤ 1 := rgz100
                              have t103 : (z100.toInt = 1 ∧ (gT).1 ((gs).1 0) = 128 + (Int32.toInt 18)) ∨ (z100.toInt = 0 ∧ (gT).1 ((gs).1 0) ≠ 128 + (Int32.toInt 18)) := t103
                              rcases t103 with ⟨q104, h105⟩ | ⟨q104, h105⟩
                              · skip
                                have kd106 : gT.1 (gs.1 0) = 146 := h105.trans (by decide)
                                refine lv_if_eq (tgt := 89) hx hb dX12_isPart_79 (by decide) (fun c107 => ?_) (fun c107 => ?_)
                                · skip
                                  have f108 : z100.toInt = 0 := b_eq rfl (by decide) c107
                                  exfalso; (first | exact om_495ee03a60ae q104 f108 | omega)
                                · skip
                                  have f109 : z100.toInt ≠ 0 := b_neq rfl (by decide) c107
                                  refine lv_aload_n hx hb dX12_isPart_82 rfl (lv_at hl 0 rfl) ?_
                                  refine va_get (D := D) (ci := 12) (v := .int (V 0 51)) (C := RX12) (T := TX12) (N := 100) hx hb hg inX12 hown hK hP 0 rfl rfl 51 (by decide) (hg _ w1757) (fun _ h9 => h9) rfl dX12_isPart_83 ?_
                                  have r110 : (-1) ≤ ((V 0 51)).toInt ∧ ((V 0 51)).toInt ≤ 47 := hMV 0 51
                                  refine lv_if_ge (tgt := 105) hx hb dX12_isPart_86 (by decide) (fun c111 => ?_) (fun c111 => ?_)
                                  · skip
                                    have f112 : 0 ≤ ((V 0 51)).toInt := b_le (by decide) rfl c111
                                    refine lv_iconst (v := 1) hx hb dX12_isPart_105 (by decide) ?_
                                    refine lv_goto (tgt := 110) hx hb dX12_isPart_106 (by decide) ?_
                                    exact W.zret (v := 1) hx hb hr rfl (fun t ht hW => ⟨⟨1, (), rfl, ⟨(by decide), (Or.inl ⟨rfl, by have h9 := kd106; have h8 := em.1.mp (by omega); unfold bgP; omega⟩)⟩, by rw [ht]; exact hP, va_K.moved hW.alike hK, hD⟩, hS.F ht⟩) hS.2.2 dX12_isPart_110
                                  · skip
                                    have f113 : ((V 0 51)).toInt < 0 := b_nle (by decide) rfl c111
                                    refine lv_aload_n hx hb dX12_isPart_89 rfl (lv_at hl 0 rfl) ?_
                                    refine lv_bipush (v := 19) hx hb dX12_isPart_90 (by decide) ?_
                                    have r114 : Int32.toInt 19 = 19 := by decide
                                    refine gA_int (gA_runV (As := [.int 19]) (rest := []) (ci := 12) (q0 := 0) hx hb hml hown hg hP hD hK hS hA hnw hgk (s_isWordA l D ks H.size ad kk V L 19 (bq) (gn) (gT) (gs) (gl) hMV (by decide) rel) w2023 w2025 w83 w172 w2026 rfl rfl hdV_yX12_isWord ⟨Nat.le_of_ble_eq_true rfl, Nat.le_of_ble_eq_true rfl⟩ rfl hl.1 rfl (Nat.le_of_ble_eq_true rfl) dX12_isPart_92 ⟨Nat.le_of_ble_eq_true rfl, Nat.le_of_ble_eq_true rfl⟩) hP hD hK hS hA (fun z115 u116 H locs w117 hP hD hK hS => ?_)
                                    obtain ⟨rgz115, t118⟩ := w117
                                    have rgz115 : 0 ≤ z115.toInt ∧ z115.toInt ≤ 1 := rgz115
                                    have t118 : (z115.toInt = 1 ∧ (gT).1 ((gs).1 0) = 128 + (Int32.toInt 19)) ∨ (z115.toInt = 0 ∧ (gT).1 ((gs).1 0) ≠ 128 + (Int32.toInt 19)) := t118
                                    rcases t118 with ⟨q119, h120⟩ | ⟨q119, h120⟩
                                    · skip
                                      have kd121 : gT.1 (gs.1 0) = 147 := h120.trans (by decide)
                                      exact absurd (kd106.symm.trans kd121) (by decide)
                                    · skip
                                      have kd122 : gT.1 (gs.1 0) ≠ 147 := fun h9 => h120 (h9.trans (by decide))
                                      refine lv_if_eq (tgt := 109) hx hb dX12_isPart_95 (by decide) (fun c123 => ?_) (fun c123 => ?_)
                                      · skip
                                        have f124 : z115.toInt = 0 := b_eq rfl (by decide) c123
                                        refine lv_iconst (v := 0) hx hb dX12_isPart_109 (by decide) ?_
                                        exact W.zret (v := 0) hx hb hr rfl (fun t ht hW => ⟨⟨0, (), rfl, ⟨(by decide), (Or.inr ⟨rfl, fun h9 => by have h8 : ¬ gs.1 4 = 0 := fun q => absurd (em.1.mpr q) (by omega); unfold bgP at h9; omega⟩)⟩, by rw [ht]; exact hP, va_K.moved hW.alike hK, hD⟩, hS.F ht⟩) hS.2.2 dX12_isPart_110
                                      · skip
                                        have f125 : z115.toInt ≠ 0 := b_neq rfl (by decide) c123
                                        exfalso; (first | exact om_fb320d7600b7 rgz115.1 q119 f125 | omega)
                              · skip
                                have kd126 : gT.1 (gs.1 0) ≠ 146 := fun h9 => h105 (h9.trans (by decide))
                                refine lv_if_eq (tgt := 89) hx hb dX12_isPart_79 (by decide) (fun c127 => ?_) (fun c127 => ?_)
                                · skip
                                  have f128 : z100.toInt = 0 := b_eq rfl (by decide) c127
                                  refine lv_aload_n hx hb dX12_isPart_89 rfl (lv_at hl 0 rfl) ?_
                                  refine lv_bipush (v := 19) hx hb dX12_isPart_90 (by decide) ?_
                                  have r129 : Int32.toInt 19 = 19 := by decide
                                  refine gA_int (gA_runV (As := [.int 19]) (rest := []) (ci := 12) (q0 := 0) hx hb hml hown hg hP hD hK hS hA hnw hgk (s_isWordA l D ks H.size ad kk V L 19 (bq) (gn) (gT) (gs) (gl) hMV (by decide) rel) w2023 w2025 w83 w172 w2026 rfl rfl hdV_yX12_isWord ⟨Nat.le_of_ble_eq_true rfl, Nat.le_of_ble_eq_true rfl⟩ rfl hl.1 rfl (Nat.le_of_ble_eq_true rfl) dX12_isPart_92 ⟨Nat.le_of_ble_eq_true rfl, Nat.le_of_ble_eq_true rfl⟩) hP hD hK hS hA (fun z130 u131 H locs w132 hP hD hK hS => ?_)
                                  obtain ⟨rgz130, t133⟩ := w132
                                  have rgz130 : 0 ≤ z130.toInt ∧ z130.toInt ≤ 1 := rgz130
                                  have t133 : (z130.toInt = 1 ∧ (gT).1 ((gs).1 0) = 128 + (Int32.toInt 19)) ∨ (z130.toInt = 0 ∧ (gT).1 ((gs).1 0) ≠ 128 + (Int32.toInt 19)) := t133
                                  rcases t133 with ⟨q134, h135⟩ | ⟨q134, h135⟩
                                  · skip
                                    have kd136 : gT.1 (gs.1 0) = 147 := h135.trans (by decide)
                                    refine lv_if_eq (tgt := 109) hx hb dX12_isPart_95 (by decide) (fun c137 => ?_) (fun c137 => ?_)
                                    · skip
                                      have f138 : z130.toInt = 0 := b_eq rfl (by decide) c137
                                      exfalso; (first | exact om_495ee03a60ae q134 f138 | omega)
                                    · skip
                                      have f139 : z130.toInt ≠ 0 := b_neq rfl (by decide) c137
                                      refine lv_aload_n hx hb dX12_isPart_98 rfl (lv_at hl 0 rfl) ?_
                                      refine va_get (D := D) (ci := 12) (v := .int (V 0 52)) (C := RX12) (T := TX12) (N := 100) hx hb hg inX12 hown hK hP 0 rfl rfl 52 (by decide) (hg _ w1758) (fun _ h9 => h9) rfl dX12_isPart_99 ?_
                                      have r140 : 0 ≤ ((V 0 52)).toInt ∧ ((V 0 52)).toInt ≤ 1 := hMV 0 52
                                      refine lv_if_eq (tgt := 109) hx hb dX12_isPart_102 (by decide) (fun c141 => ?_) (fun c141 => ?_)
                                      · skip
                                        have f142 : ((V 0 52)).toInt = 0 := b_eq rfl (by decide) c141
                                        refine lv_iconst (v := 0) hx hb dX12_isPart_109 (by decide) ?_
                                        exact W.zret (v := 0) hx hb hr rfl (fun t ht hW => ⟨⟨0, (), rfl, ⟨(by decide), (Or.inr ⟨rfl, fun h9 => by have h8 : ¬ gs.1 4 = 2 := fun q => absurd (em.2.1.mpr q) (by omega); unfold bgP at h9; omega⟩)⟩, by rw [ht]; exact hP, va_K.moved hW.alike hK, hD⟩, hS.F ht⟩) hS.2.2 dX12_isPart_110
                                      · skip
                                        have f143 : ((V 0 52)).toInt ≠ 0 := b_neq rfl (by decide) c141
                                        refine lv_iconst (v := 1) hx hb dX12_isPart_105 (by decide) ?_
                                        refine lv_goto (tgt := 110) hx hb dX12_isPart_106 (by decide) ?_
                                        exact W.zret (v := 1) hx hb hr rfl (fun t ht hW => ⟨⟨1, (), rfl, ⟨(by decide), (Or.inl ⟨rfl, by have h9 := kd136; have h8 := em.2.1.mp (by omega); unfold bgP; omega⟩)⟩, by rw [ht]; exact hP, va_K.moved hW.alike hK, hD⟩, hS.F ht⟩) hS.2.2 dX12_isPart_110
                                  · skip
                                    have kd144 : gT.1 (gs.1 0) ≠ 147 := fun h9 => h135 (h9.trans (by decide))
                                    refine lv_if_eq (tgt := 109) hx hb dX12_isPart_95 (by decide) (fun c145 => ?_) (fun c145 => ?_)
                                    · skip
                                      have f146 : z130.toInt = 0 := b_eq rfl (by decide) c145
                                      refine lv_iconst (v := 0) hx hb dX12_isPart_109 (by decide) ?_
                                      exact W.zret (v := 0) hx hb hr rfl (fun t ht hW => ⟨⟨0, (), rfl, ⟨(by decide), (Or.inr ⟨rfl, fun h9 => by unfold bgP at h9; omega⟩)⟩, by rw [ht]; exact hP, va_K.moved hW.alike hK, hD⟩, hS.F ht⟩) hS.2.2 dX12_isPart_110
                                    · skip
                                      have f147 : z130.toInt ≠ 0 := b_neq rfl (by decide) c145
                                      exfalso; (first | exact om_fb320d7600b7 rgz130.1 q134 f147 | omega)
                                · skip
                                  have f148 : z100.toInt ≠ 0 := b_neq rfl (by decide) c127
                                  exfalso; (first | exact om_fb320d7600b7 rgz100.1 q104 f148 | omega)
abbrev r_s_partB : Room := { frames := 0, cells := 0, slots := 0, locals := 0 }
abbrev q_s_partB (D : va_G) (ks : KS) (ad : Nat → Nat) (kk : Nat → ClassId) (V : Vf) (L : Lf) (A : Nat → Prop) : Array Value → State → Outcome → State → Prop := va_Qv (fun (u : Vf × Lf) => rgd bM u.1 ∧ agr [(0, 7), (0, 8), (0, 48), (0, 50)] [35, 36, 37, 38, 45, 46, 47] V u.1 ∧ agL [35, 36, 37, 38, 45, 46, 47] L u.2 ∧ ((u.1 0 48).toInt = (V 0 48).toInt) ∧ ((u.1 0 50).toInt = (V 0 50).toInt) ∧ ((u.1 0 8).toInt = (V 0 8).toInt) ∧ (NoV 35 V u.1) ∧ (NoV 37 V u.1) ∧ (NoL 36 L u.2) ∧ (NoL 38 L u.2)) (fun u t => gq D A (mw ad kk ks.1 u.1 u.2) (mty kk) t) A
set_option maxHeartbeats 4000000 in
set_option maxRecDepth 100000 in
theorem s_partB (l : Launch) (D : va_G) (ks : KS) (sz : Nat) (ad : Nat → Nat) (kk : Nat → ClassId) (V : Vf) (L : Lf)  (hMV : rgd bM V) (bf : 1 ≤ (V 0 8).toInt) (bd : (V 0 50).toInt ≤ 8)  : Met l yX12_part (Cond.code yX12_part cX12_part 2 none :: GW) r_s_partB (va_Pc [.ref (ad 0)] (gp D ks (mw ad kk ks.1 V L) (mty kk) sz)) (q_s_partB D ks ad kk V L  (va_A (mw ad kk ks.1 V L) sz)) 0 0 (va_A (mw ad kk ks.1 V L) sz) := by
  refine g_met (q_s_partB D ks ad kk V L) (by decide) (Nat.le_of_ble_eq_true rfl) ?_
  intro p e s m below meth c A ls H locs hx hb hr hml hown hg hlocks hin hnw hgk hP hK hD hS hA hl
  have hown : s.vm.findClass RX12 = some m.cls := hown
  have hl : lv_has ls 2 [(0, .ref (ad 0))] := hl
  have hP : va_P D vwCl (mw ad kk ks.1 V L) H := hP
  have hD : va_D A (mw ad kk ks.1 V L) := hD
  have hK : va_K D vwCl (mty kk) s := hK
  have agV : agr [(0, 7), (0, 8), (0, 48), (0, 50)] [35, 36, 37, 38, 45, 46, 47] V V := agr.rf
  have alL : agL [35, 36, 37, 38, 45, 46, 47] L L := agL.rf
  have r1 : 0 ≤ ((V 0 8)).toInt ∧ ((V 0 8)).toInt ≤ 70000 := hMV 0 8
  have r2 : 0 ≤ ((V 0 50)).toInt ∧ ((V 0 50)).toInt ≤ 9 := hMV 0 50
  refine lv_aload_n hx hb dX12_part_0 rfl (lv_at hl 0 rfl) ?_
  refine va_get (D := D) (ci := 12) (v := .int (V 0 8)) (C := RX12) (T := TX12) (N := 100) hx hb hg inX12 hown hK hP 0 rfl rfl 8 (by decide) (hg _ w1714) (fun _ h9 => h9) rfl dX12_part_1 ?_
  refine lv_if_ne (tgt := 22) hx hb dX12_part_4 (by decide) (fun c3 => ?_) (fun c3 => ?_)
  · skip
    have f4 : ((V 0 8)).toInt ≠ 0 := b_neq rfl (by decide) c3
    refine lv_aload_n hx hb dX12_part_22 rfl (lv_at hl 0 rfl) ?_
    refine va_get (D := D) (ci := 12) (v := .int (V 0 8)) (C := RX12) (T := TX12) (N := 100) hx hb hg inX12 hown hK hP 0 rfl rfl 8 (by decide) (hg _ w1714) (fun _ h9 => h9) rfl dX12_part_23 ?_
    refine lv_if_ne (tgt := 43) hx hb dX12_part_26 (by decide) (fun c5 => ?_) (fun c5 => ?_)
    · skip
      have f6 : ((V 0 8)).toInt ≠ 0 := b_neq rfl (by decide) c5
      refine lv_aload_n hx hb dX12_part_43 rfl (lv_at hl 0 rfl) ?_
      refine lv_dup hx hb dX12_part_44 rfl ?_
      refine va_get (D := D) (ci := 12) (v := .int (V 0 50)) (C := RX12) (T := TX12) (N := 100) hx hb hg inX12 hown hK hP 0 rfl rfl 50 (by decide) (hg _ w1756) (fun _ h9 => h9) rfl dX12_part_45 ?_
      refine lv_iconst (v := 1) hx hb dX12_part_48 (by decide) ?_
      refine lv_iadd hx hb dX12_part_49 ?_
      refine lv_topi (fun z7 ez7 => ?_)
      have hz7 : z7.toInt = ((V 0 50)).toInt + 1 := i_add ez7 rfl (by decide) (by (first | exact om_8bbea558cb2a bd r2.1 | omega))
      refine va_put (D := D) (ci := 12) (v := .int z7) (ty := tyX12 50) (C := RX12) (T := TX12) (N := 100) hx hb hg inX12 tyX12 tyX12_ok nmX12 hown hK hP hD hS 0 rfl rfl 50 (by decide) (hg _ w1756) (fun _ h9 => h9) rfl (tyX12_ok 50 (by decide)) rfl rfl (Nat.le_of_ble_eq_true rfl) dX12_part_50 (fun H locs hP hD hS => ?_)
      obtain ⟨V8, hV8⟩ : ∃ z, z = up2 V 0 50 z7 := ⟨_, rfl⟩
      have hP : va_P D vwCl (mw ad kk ks.1 V8 L) H := by rw [hV8]; exact hP
      have hD : va_D A (mw ad kk ks.1 V8 L) := by rw [hV8]; exact hD
      have hMV8 : rgd bM V8 := hMV.put hV8 (show 0 ≤ z7.toInt ∧ z7.toInt ≤ 9 from by (first | exact om_caef228411ba bd r2.1 hz7 | omega))
      have agV8 : agr [(0, 7), (0, 8), (0, 48), (0, 50)] [35, 36, 37, 38, 45, 46, 47] V V8 := agV.up hV8 rfl
      refine lv_aload_n hx hb dX12_part_53 rfl (lv_at hl 0 rfl) ?_
      refine va_get (D := D) (ci := 12) (v := .int (V8 0 8)) (C := RX12) (T := TX12) (N := 100) hx hb hg inX12 hown hK hP 0 rfl rfl 8 (by decide) (hg _ w1714) (fun _ h9 => h9) rfl dX12_part_54 ?_
      refine g_top (v := (V 0 8)) (up2_k hV8 (by decide)) ?_
      refine lv_if_ne (tgt := 72) hx hb dX12_part_57 (by decide) (fun c9 => ?_) (fun c9 => ?_)
      · skip
        have f10 : ((V 0 8)).toInt ≠ 0 := b_neq rfl (by decide) c9
        refine lv_aload_n hx hb dX12_part_72 rfl (lv_at hl 0 rfl) ?_
        refine lv_dup hx hb dX12_part_73 rfl ?_
        refine va_get (D := D) (ci := 12) (v := .int (V8 0 50)) (C := RX12) (T := TX12) (N := 100) hx hb hg inX12 hown hK hP 0 rfl rfl 50 (by decide) (hg _ w1756) (fun _ h9 => h9) rfl dX12_part_74 ?_
        refine g_top (v := z7) (up2_s hV8) ?_
        refine lv_iconst (v := 1) hx hb dX12_part_77 (by decide) ?_
        refine lv_isub hx hb dX12_part_78 ?_
        refine lv_topi (fun z11 ez11 => ?_)
        have hz11 : z11.toInt = z7.toInt - 1 := i_sub ez11 rfl (by decide) (by (first | exact om_9ddbbe5f86ad bd r2.1 hz7 | omega))
        refine va_put (D := D) (ci := 12) (v := .int z11) (ty := tyX12 50) (C := RX12) (T := TX12) (N := 100) hx hb hg inX12 tyX12 tyX12_ok nmX12 hown hK hP hD hS 0 rfl rfl 50 (by decide) (hg _ w1756) (fun _ h9 => h9) rfl (tyX12_ok 50 (by decide)) rfl rfl (Nat.le_of_ble_eq_true rfl) dX12_part_79 (fun H locs hP hD hS => ?_)
        obtain ⟨V12, hV12⟩ : ∃ z, z = up2 V8 0 50 z11 := ⟨_, rfl⟩
        have hP : va_P D vwCl (mw ad kk ks.1 V12 L) H := by rw [hV12]; exact hP
        have hD : va_D A (mw ad kk ks.1 V12 L) := by rw [hV12]; exact hD
        have hMV12 : rgd bM V12 := hMV8.put hV12 (show 0 ≤ z11.toInt ∧ z11.toInt ≤ 9 from by (first | exact om_ed1774053dbc bd r2.1 hz7 hz11 | omega))
        have agV12 : agr [(0, 7), (0, 8), (0, 48), (0, 50)] [35, 36, 37, 38, 45, 46, 47] V V12 := agV8.up hV12 rfl
        have pq13 : (V12 0 48).toInt = ((V 0 48)).toInt := congrArg Int32.toInt ((up2_k hV12 (by decide)).trans (up2_k hV8 (by decide)))
        have r14 : 0 ≤ ((V 0 48)).toInt ∧ ((V 0 48)).toInt ≤ 10000 := hMV 0 48
        have pq15 : (V12 0 50).toInt = z11.toInt := congrArg Int32.toInt (up2_s hV12)
        have pq16 : (V12 0 8).toInt = ((V 0 8)).toInt := congrArg Int32.toInt ((up2_k hV12 (by decide)).trans (up2_k hV8 (by decide)))
        have rw17 : NoV 35 V V12 := (fun k => ((up2_o hV12 (by decide)).trans ((up2_o hV8 (by decide)).trans rfl)))
        have rw18 : NoV 37 V V12 := (fun k => ((up2_o hV12 (by decide)).trans ((up2_o hV8 (by decide)).trans rfl)))
        have rw19 : NoL 36 L L := (fun k => rfl)
        have rw20 : NoL 38 L L := (fun k => rfl)
        exact W.vret hx hb hr (fun t ht hW => ⟨⟨(V12, L), rfl, ⟨hMV12, agV12, alL, (show (V12 0 48).toInt = (V 0 48).toInt from by (first | exact om_570b691c1130 pq13 | omega)), (show (V12 0 50).toInt = (V 0 50).toInt from by (first | exact om_688aeadf4b2f hz7 hz11 pq15 | omega)), (show (V12 0 8).toInt = (V 0 8).toInt from by (first | exact om_570b691c1130 pq16 | omega)), rw17, rw18, rw19, rw20⟩, by rw [ht]; exact hP, va_K.moved hW.alike hK, hD⟩, hS.F ht⟩) hS.2.2 dX12_part_82
      · skip
        have f21 : ((V 0 8)).toInt = 0 := b_eq rfl (by decide) c9
        exfalso; (first | exact om_b02ddf2a5870 bf f4 f21 | omega)
    · skip
      have f22 : ((V 0 8)).toInt = 0 := b_eq rfl (by decide) c5
      exfalso; (first | exact om_b02ddf2a5870 bf f4 f22 | omega)
  · skip
    have f23 : ((V 0 8)).toInt = 0 := b_eq rfl (by decide) c3
    exfalso; (first | exact om_09885ab343b9 bf f23 | omega)
abbrev r_s_productB : Room := { frames := 2, cells := 0, slots := 0, locals := 43 }
abbrev q_s_productB (D : va_G) (ks : KS) (ad : Nat → Nat) (kk : Nat → ClassId) (V : Vf) (L : Lf) (A : Nat → Prop) : Array Value → State → Outcome → State → Prop := va_Qv (fun (u : Vf × Lf) => rgd bM u.1 ∧ agr [(0, 7), (0, 8), (0, 48), (0, 50)] [35, 36, 37, 38, 45, 46, 47] V u.1 ∧ agL [35, 36, 37, 38, 45, 46, 47] L u.2 ∧ ((u.1 0 48).toInt = (V 0 48).toInt) ∧ ((u.1 0 50).toInt = (V 0 50).toInt) ∧ ((u.1 0 8).toInt = (V 0 8).toInt) ∧ (NoV 35 V u.1) ∧ (NoV 37 V u.1) ∧ (NoL 36 L u.2) ∧ (NoL 38 L u.2)) (fun u t => gq D A (mw ad kk ks.1 u.1 u.2) (mty kk) t) A
set_option maxHeartbeats 4000000 in
set_option maxRecDepth 100000 in
theorem s_productB (l : Launch) (D : va_G) (ks : KS) (sz : Nat) (ad : Nat → Nat) (kk : Nat → ClassId) (V : Vf) (L : Lf)  (hMV : rgd bM V) (bf : 1 ≤ (V 0 8).toInt) (bd : (V 0 50).toInt ≤ 8)  : Met l yX12_product (Cond.code yX12_product cX12_product 2 none :: GW) r_s_productB (va_Pc [.ref (ad 0)] (gp D ks (mw ad kk ks.1 V L) (mty kk) sz)) (q_s_productB D ks ad kk V L  (va_A (mw ad kk ks.1 V L) sz)) 0 0 (va_A (mw ad kk ks.1 V L) sz) := by
  refine g_met (q_s_productB D ks ad kk V L) (by decide) (Nat.le_of_ble_eq_true rfl) ?_
  intro p e s m below meth c A ls H locs hx hb hr hml hown hg hlocks hin hnw hgk hP hK hD hS hA hl
  have hown : s.vm.findClass RX12 = some m.cls := hown
  have hl : lv_has ls 2 [(0, .ref (ad 0))] := hl
  have hP : va_P D vwCl (mw ad kk ks.1 V L) H := hP
  have hD : va_D A (mw ad kk ks.1 V L) := hD
  have hK : va_K D vwCl (mty kk) s := hK
  have agV : agr [(0, 7), (0, 8), (0, 48), (0, 50)] [35, 36, 37, 38, 45, 46, 47] V V := agr.rf
  have alL : agL [35, 36, 37, 38, 45, 46, 47] L L := agL.rf
  have r1 : 0 ≤ ((V 0 8)).toInt ∧ ((V 0 8)).toInt ≤ 70000 := hMV 0 8
  have r2 : 0 ≤ ((V 0 50)).toInt ∧ ((V 0 50)).toInt ≤ 9 := hMV 0 50
  refine lv_aload_n hx hb dX12_product_0 rfl (lv_at hl 0 rfl) ?_
  refine gA_void (gA_runV (As := []) (rest := []) (ci := 12) (q0 := 0) hx hb hml hown hg hP hD hK hS hA hnw hgk (s_partB l D ks H.size ad kk V L  hMV (show 1 ≤ (V 0 8).toInt from by (first | exact om_f8d8213eda45 bf | omega)) (show (V 0 50).toInt ≤ 8 from by (first | exact om_f1be64229e31 bd | omega))) w2128 w2130 w109 w172 w2131 rfl rfl hdV_yX12_part ⟨Nat.le_of_ble_eq_true rfl, Nat.le_of_ble_eq_true rfl⟩ rfl hl.1 rfl (Nat.le_of_ble_eq_true rfl) dX12_product_1 ⟨Nat.le_of_ble_eq_true rfl, Nat.le_of_ble_eq_true rfl⟩) hP hD hK hS hA (fun u4 H locs w5 hP hD hK hS => ?_)
  obtain ⟨V13, L14⟩ := u4
  obtain ⟨hMV13, ajV13, axL14, t6, t7, t8, t9, t10, t11, t12⟩ := w5
  have alL14 : agL [35, 36, 37, 38, 45, 46, 47] L L14 := agL.tr alL axL14 (by decide)
  have hP : va_P D vwCl (mw ad kk ks.1 V13 L14) H := hP
  have hD : va_D A (mw ad kk ks.1 V13 L14) := hD
  have hMV13 : rgd bM V13 := hMV13
  have ajV13 : agr [(0, 7), (0, 8), (0, 48), (0, 50)] [35, 36, 37, 38, 45, 46, 47] V V13 := ajV13
  have agV13 : agr [(0, 7), (0, 8), (0, 48), (0, 50)] [35, 36, 37, 38, 45, 46, 47] V V13 := agV.tr ajV13 (by decide) (by decide)
  have t6 : (V13 0 48).toInt = (V 0 48).toInt := t6
  have t7 : (V13 0 50).toInt = (V 0 50).toInt := t7
  have t8 : (V13 0 8).toInt = (V 0 8).toInt := t8
  have t9 : NoV 35 V V13 := t9
  have t10 : NoV 37 V V13 := t10
  have t11 : NoL 36 L L14 := t11
  have t12 : NoL 38 L L14 := t12
  have r15 : 0 ≤ ((V 0 48)).toInt ∧ ((V 0 48)).toInt ≤ 10000 := hMV 0 48
  have r16 : 0 ≤ ((V13 0 48)).toInt ∧ ((V13 0 48)).toInt ≤ 10000 := hMV13 0 48
  have r17 : 0 ≤ ((V13 0 50)).toInt ∧ ((V13 0 50)).toInt ≤ 9 := hMV13 0 50
  have r18 : 0 ≤ ((V13 0 8)).toInt ∧ ((V13 0 8)).toInt ≤ 70000 := hMV13 0 8
  have lp22 : ∀ (fulp22 : Nat) (g21 : Int) (V19 : Vf) (L20 : Lf) (H : Heap) (locs : List Loc) (ls : Array Slot), 0 ≤ g21 → (V19 0 8).toInt = (V 0 8).toInt → (V19 0 48).toInt = (V 0 48).toInt → (V19 0 50).toInt = (V 0 50).toInt → (NoV 35 V V19) → (NoV 37 V V19) → (NoL 36 L L20) → (NoL 38 L L20) → g21 < (fulp22 : Int) → agL [35, 36, 37, 38, 45, 46, 47] L L20 → agr [(0, 7), (0, 8), (0, 48), (0, 50)] [35, 36, 37, 38, 45, 46, 47] V13 V19 → rgd bM V19 → va_P D vwCl (mw ad kk ks.1 V19 L20) H → va_D A (mw ad kk ks.1 V19 L20) → va_S A s.heap H locs → lv_has ls 2 [(0, .ref (ad 0))] → W p l e r_s_productB s m ([.ref (ad 0)] : List Value).toArray below meth c H locs 0 0 (MQ below (q_s_productB D ks ad kk V L  A) ([.ref (ad 0)] : List Value).toArray s 0 0 A) (F0 m 4 ls []) := by
    intro fulp22
    induction fulp22 with
    | zero =>
      intro g21 V19 L20 H locs ls xlp22_0 xlp22_1 xlp22_2 xlp22_3 xlp22_4 xlp22_5 xlp22_6 xlp22_7 hn alL20 ajV19 hMV19 hP hD hS hl
      exfalso; (first | exact om_21e89d3d06d7 xlp22_0 hn | omega)
    | succ fulp22 ihlp22 =>
      intro g21 V19 L20 H locs ls xlp22_0 xlp22_1 xlp22_2 xlp22_3 xlp22_4 xlp22_5 xlp22_6 xlp22_7 hn alL20 ajV19 hMV19 hP hD hS hl
      have agV19 : agr [(0, 7), (0, 8), (0, 48), (0, 50)] [35, 36, 37, 38, 45, 46, 47] V V19 := agV13.tr ajV19 (by decide) (by decide)
      have r23 : 0 ≤ ((V19 0 8)).toInt ∧ ((V19 0 8)).toInt ≤ 70000 := hMV19 0 8
      have r24 : 0 ≤ ((V19 0 48)).toInt ∧ ((V19 0 48)).toInt ≤ 10000 := hMV19 0 48
      have r25 : 0 ≤ ((V19 0 50)).toInt ∧ ((V19 0 50)).toInt ≤ 9 := hMV19 0 50
      refine lv_aload_n hx hb dX12_product_4 rfl (lv_at hl 0 rfl) ?_
      refine lv_bipush (v := 42) hx hb dX12_product_5 (by decide) ?_
      have r26 : Int32.toInt 42 = 42 := by decide
      refine gA_int (gA_runV (As := [.int 42]) (rest := []) (ci := 12) (q0 := 0) hx hb hml hown hg hP hD hK hS hA hnw hgk (s_hasSignB l D ks H.size ad kk V19 L20 42 hMV19 (show 1 ≤ (V19 0 8).toInt from by (first | exact om_e3c391a03e81 bf xlp22_1 | omega))) w2067 w2069 w94 w172 w2070 rfl rfl hdV_yX12_hasSign ⟨Nat.le_of_ble_eq_true rfl, Nat.le_of_ble_eq_true rfl⟩ rfl hl.1 rfl (Nat.le_of_ble_eq_true rfl) dX12_product_7 ⟨Nat.le_of_ble_eq_true rfl, Nat.le_of_ble_eq_true rfl⟩) hP hD hK hS hA (fun z27 u28 H locs w29 hP hD hK hS => ?_)
      obtain ⟨V31, L32⟩ := u28
      obtain ⟨hMV31, ajV31, axL32, rgz27, t30⟩ := w29
      have axL32 : L20 = L32 := Eq.symm axL32
      subst axL32
      have hP : va_P D vwCl (mw ad kk ks.1 V31 L20) H := hP
      have hD : va_D A (mw ad kk ks.1 V31 L20) := hD
      have hMV31 : rgd bM V31 := hMV31
      have ajV31 : agr [(0, 7)] [] V19 V31 := ajV31
      have agV31 : agr [(0, 7), (0, 8), (0, 48), (0, 50)] [35, 36, 37, 38, 45, 46, 47] V V31 := agV19.tr ajV31 (by decide) (by decide)
      have rgz27 : 0 ≤ z27.toInt ∧ z27.toInt ≤ 0 := rgz27
      have t30 : (V31 0 8).toInt = (V19 0 8).toInt := t30
      have pq33 : (V31 0 8).toInt = ((V19 0 8)).toInt := congrArg Int32.toInt (ajV31 0 8 rfl)
      refine lv_if_eq (tgt := 28) hx hb dX12_product_10 (by decide) (fun c34 => ?_) (fun c34 => ?_)
      · skip
        have f35 : z27.toInt = 0 := b_eq rfl (by decide) c34
        have pq36 : (V31 0 48).toInt = ((V19 0 48)).toInt := congrArg Int32.toInt (ajV31 0 48 rfl)
        have pq37 : (V31 0 50).toInt = ((V19 0 50)).toInt := congrArg Int32.toInt (ajV31 0 50 rfl)
        have rw38 : NoV 35 V V31 := (fun k => ((ajV31 35 k rfl).trans (xlp22_4 k)))
        have rw39 : NoV 37 V V31 := (fun k => ((ajV31 37 k rfl).trans (xlp22_5 k)))
        have rw40 : NoL 36 L L20 := (fun k => (xlp22_6 k))
        have rw41 : NoL 38 L L20 := (fun k => (xlp22_7 k))
        exact W.vret hx hb hr (fun t ht hW => ⟨⟨(V31, L20), rfl, ⟨hMV31, agV31, alL20, (show (V31 0 48).toInt = (V 0 48).toInt from by (first | exact om_cd7d0a6a31bc xlp22_2 pq36 | omega)), (show (V31 0 50).toInt = (V 0 50).toInt from by (first | exact om_cd7d0a6a31bc xlp22_3 pq37 | omega)), (show (V31 0 8).toInt = (V 0 8).toInt from by (first | exact om_cd7d0a6a31bc xlp22_1 t30 | omega)), rw38, rw39, rw40, rw41⟩, by rw [ht]; exact hP, va_K.moved hW.alike hK, hD⟩, hS.F ht⟩) hS.2.2 dX12_product_28
      · skip
        have f42 : z27.toInt ≠ 0 := b_neq rfl (by decide) c34
        exfalso; (first | exact om_0e608cc4b4f6 rgz27.1 rgz27.2 f42 | omega)
  have rw43 : NoV 35 V V13 := (fun k => ((t9 k).trans rfl))
  have rw44 : NoV 37 V V13 := (fun k => ((t10 k).trans rfl))
  have rw45 : NoL 36 L L14 := (fun k => ((t11 k).trans rfl))
  have rw46 : NoL 38 L L14 := (fun k => ((t12 k).trans rfl))
  exact lp22 ((1 + 1 : Int).toNat) 1 V13 L14 H locs ls (show 0 ≤ 1 from by omega) (show (V13 0 8).toInt = (V 0 8).toInt from by (first | exact om_570b691c1130 t8 | omega)) (show (V13 0 48).toInt = (V 0 48).toInt from by (first | exact om_570b691c1130 t6 | omega)) (show (V13 0 50).toInt = (V 0 50).toInt from by (first | exact om_570b691c1130 t7 | omega)) rw43 rw44 rw45 rw46 (by (first | exact om_698b445651e6 | omega)) alL14 agr.rf hMV13 hP hD hS (lv_sub hl [0] rfl)
abbrev r_s_sumB : Room := { frames := 3, cells := 0, slots := 0, locals := 64 }
abbrev q_s_sumB (D : va_G) (ks : KS) (ad : Nat → Nat) (kk : Nat → ClassId) (V : Vf) (L : Lf) (A : Nat → Prop) : Array Value → State → Outcome → State → Prop := va_Qv (fun (u : Vf × Lf) => rgd bM u.1 ∧ agr [(0, 7), (0, 8), (0, 48), (0, 50)] [35, 36, 37, 38, 45, 46, 47] V u.1 ∧ agL [35, 36, 37, 38, 45, 46, 47] L u.2 ∧ ((u.1 0 48).toInt = (V 0 48).toInt) ∧ ((u.1 0 50).toInt = (V 0 50).toInt) ∧ ((u.1 0 8).toInt = (V 0 8).toInt) ∧ (NoV 35 V u.1) ∧ (NoV 37 V u.1) ∧ (NoL 36 L u.2) ∧ (NoL 38 L u.2)) (fun u t => gq D A (mw ad kk ks.1 u.1 u.2) (mty kk) t) A
set_option maxHeartbeats 4000000 in
set_option maxRecDepth 100000 in
theorem s_sumB (l : Launch) (D : va_G) (ks : KS) (sz : Nat) (ad : Nat → Nat) (kk : Nat → ClassId) (V : Vf) (L : Lf)  (hMV : rgd bM V) (bf : 1 ≤ (V 0 8).toInt) (bd : (V 0 50).toInt ≤ 8)  : Met l yX12_sum (Cond.code yX12_sum cX12_sum 3 none :: GW) r_s_sumB (va_Pc [.ref (ad 0)] (gp D ks (mw ad kk ks.1 V L) (mty kk) sz)) (q_s_sumB D ks ad kk V L  (va_A (mw ad kk ks.1 V L) sz)) 0 0 (va_A (mw ad kk ks.1 V L) sz) := by
  refine g_met (q_s_sumB D ks ad kk V L) (by decide) (Nat.le_of_ble_eq_true rfl) ?_
  intro p e s m below meth c A ls H locs hx hb hr hml hown hg hlocks hin hnw hgk hP hK hD hS hA hl
  have hown : s.vm.findClass RX12 = some m.cls := hown
  have hl : lv_has ls 3 [(0, .ref (ad 0))] := hl
  have hP : va_P D vwCl (mw ad kk ks.1 V L) H := hP
  have hD : va_D A (mw ad kk ks.1 V L) := hD
  have hK : va_K D vwCl (mty kk) s := hK
  have agV : agr [(0, 7), (0, 8), (0, 48), (0, 50)] [35, 36, 37, 38, 45, 46, 47] V V := agr.rf
  have alL : agL [35, 36, 37, 38, 45, 46, 47] L L := agL.rf
  have r1 : 0 ≤ ((V 0 8)).toInt ∧ ((V 0 8)).toInt ≤ 70000 := hMV 0 8
  have r2 : 0 ≤ ((V 0 50)).toInt ∧ ((V 0 50)).toInt ≤ 9 := hMV 0 50
  refine lv_aload_n hx hb dX12_sum_0 rfl (lv_at hl 0 rfl) ?_
  refine gA_void (gA_runV (As := []) (rest := []) (ci := 12) (q0 := 0) hx hb hml hown hg hP hD hK hS hA hnw hgk (s_productB l D ks H.size ad kk V L  hMV (show 1 ≤ (V 0 8).toInt from by (first | exact om_f8d8213eda45 bf | omega)) (show (V 0 50).toInt ≤ 8 from by (first | exact om_f1be64229e31 bd | omega))) w2124 w2126 w108 w172 w2127 rfl rfl hdV_yX12_product ⟨Nat.le_of_ble_eq_true rfl, Nat.le_of_ble_eq_true rfl⟩ rfl hl.1 rfl (Nat.le_of_ble_eq_true rfl) dX12_sum_1 ⟨Nat.le_of_ble_eq_true rfl, Nat.le_of_ble_eq_true rfl⟩) hP hD hK hS hA (fun u4 H locs w5 hP hD hK hS => ?_)
  obtain ⟨V13, L14⟩ := u4
  obtain ⟨hMV13, ajV13, axL14, t6, t7, t8, t9, t10, t11, t12⟩ := w5
  have alL14 : agL [35, 36, 37, 38, 45, 46, 47] L L14 := agL.tr alL axL14 (by decide)
  have hP : va_P D vwCl (mw ad kk ks.1 V13 L14) H := hP
  have hD : va_D A (mw ad kk ks.1 V13 L14) := hD
  have hMV13 : rgd bM V13 := hMV13
  have ajV13 : agr [(0, 7), (0, 8), (0, 48), (0, 50)] [35, 36, 37, 38, 45, 46, 47] V V13 := ajV13
  have agV13 : agr [(0, 7), (0, 8), (0, 48), (0, 50)] [35, 36, 37, 38, 45, 46, 47] V V13 := agV.tr ajV13 (by decide) (by decide)
  have t6 : (V13 0 48).toInt = (V 0 48).toInt := t6
  have t7 : (V13 0 50).toInt = (V 0 50).toInt := t7
  have t8 : (V13 0 8).toInt = (V 0 8).toInt := t8
  have t9 : NoV 35 V V13 := t9
  have t10 : NoV 37 V V13 := t10
  have t11 : NoL 36 L L14 := t11
  have t12 : NoL 38 L L14 := t12
  have r15 : 0 ≤ ((V 0 48)).toInt ∧ ((V 0 48)).toInt ≤ 10000 := hMV 0 48
  have r16 : 0 ≤ ((V13 0 48)).toInt ∧ ((V13 0 48)).toInt ≤ 10000 := hMV13 0 48
  have r17 : 0 ≤ ((V13 0 50)).toInt ∧ ((V13 0 50)).toInt ≤ 9 := hMV13 0 50
  have r18 : 0 ≤ ((V13 0 8)).toInt ∧ ((V13 0 8)).toInt ≤ 70000 := hMV13 0 8
  have lp22 : ∀ (fulp22 : Nat) (g21 : Int) (V19 : Vf) (L20 : Lf) (H : Heap) (locs : List Loc) (ls : Array Slot), 0 ≤ g21 → (V19 0 8).toInt = (V 0 8).toInt → (V19 0 48).toInt = (V 0 48).toInt → (V19 0 50).toInt = (V 0 50).toInt → (NoV 35 V V19) → (NoV 37 V V19) → (NoL 36 L L20) → (NoL 38 L L20) → (NoV 35 V V19) → (NoV 37 V V19) → (NoL 36 L L20) → (NoL 38 L L20) → g21 < (fulp22 : Int) → agL [35, 36, 37, 38, 45, 46, 47] L L20 → agr [(0, 7), (0, 8), (0, 48), (0, 50)] [35, 36, 37, 38, 45, 46, 47] V13 V19 → rgd bM V19 → va_P D vwCl (mw ad kk ks.1 V19 L20) H → va_D A (mw ad kk ks.1 V19 L20) → va_S A s.heap H locs → lv_has ls 3 [(0, .ref (ad 0))] → W p l e r_s_sumB s m ([.ref (ad 0)] : List Value).toArray below meth c H locs 0 0 (MQ below (q_s_sumB D ks ad kk V L  A) ([.ref (ad 0)] : List Value).toArray s 0 0 A) (F0 m 4 ls []) := by
    intro fulp22
    induction fulp22 with
    | zero =>
      intro g21 V19 L20 H locs ls xlp22_0 xlp22_1 xlp22_2 xlp22_3 xlp22_4 xlp22_5 xlp22_6 xlp22_7 xlp22_8 xlp22_9 xlp22_10 xlp22_11 hn alL20 ajV19 hMV19 hP hD hS hl
      exfalso; (first | exact om_21e89d3d06d7 xlp22_0 hn | omega)
    | succ fulp22 ihlp22 =>
      intro g21 V19 L20 H locs ls xlp22_0 xlp22_1 xlp22_2 xlp22_3 xlp22_4 xlp22_5 xlp22_6 xlp22_7 xlp22_8 xlp22_9 xlp22_10 xlp22_11 hn alL20 ajV19 hMV19 hP hD hS hl
      have agV19 : agr [(0, 7), (0, 8), (0, 48), (0, 50)] [35, 36, 37, 38, 45, 46, 47] V V19 := agV13.tr ajV19 (by decide) (by decide)
      have r23 : 0 ≤ ((V19 0 8)).toInt ∧ ((V19 0 8)).toInt ≤ 70000 := hMV19 0 8
      have r24 : 0 ≤ ((V19 0 48)).toInt ∧ ((V19 0 48)).toInt ≤ 10000 := hMV19 0 48
      have r25 : 0 ≤ ((V19 0 50)).toInt ∧ ((V19 0 50)).toInt ≤ 9 := hMV19 0 50
      refine lv_aload_n hx hb dX12_sum_4 rfl (lv_at hl 0 rfl) ?_
      refine lv_bipush (v := 43) hx hb dX12_sum_5 (by decide) ?_
      have r26 : Int32.toInt 43 = 43 := by decide
      refine gA_int (gA_runV (As := [.int 43]) (rest := []) (ci := 12) (q0 := 0) hx hb hml hown hg hP hD hK hS hA hnw hgk (s_isSignB l D ks H.size ad kk V19 L20 43 hMV19 (show 1 ≤ (V19 0 8).toInt from by (first | exact om_e3c391a03e81 bf xlp22_1 | omega))) w2071 w2073 w95 w172 w2074 rfl rfl hdV_yX12_isSign ⟨Nat.le_of_ble_eq_true rfl, Nat.le_of_ble_eq_true rfl⟩ rfl hl.1 rfl (Nat.le_of_ble_eq_true rfl) dX12_sum_7 ⟨Nat.le_of_ble_eq_true rfl, Nat.le_of_ble_eq_true rfl⟩) hP hD hK hS hA (fun z27 u28 H locs w29 hP hD hK hS => ?_)
      have rgz27 := w29
      have rgz27 : 0 ≤ z27.toInt ∧ z27.toInt ≤ 0 := rgz27
      refine lv_if_ne (tgt := 22) hx hb dX12_sum_10 (by decide) (fun c30 => ?_) (fun c30 => ?_)
      · skip
        have f31 : z27.toInt ≠ 0 := b_neq rfl (by decide) c30
        exfalso; (first | exact om_0e608cc4b4f6 rgz27.1 rgz27.2 f31 | omega)
      · skip
        have f32 : z27.toInt = 0 := b_eq rfl (by decide) c30
        refine lv_aload_n hx hb dX12_sum_13 rfl (lv_at hl 0 rfl) ?_
        refine lv_bipush (v := 45) hx hb dX12_sum_14 (by decide) ?_
        have r33 : Int32.toInt 45 = 45 := by decide
        refine gA_int (gA_runV (As := [.int 45]) (rest := []) (ci := 12) (q0 := 0) hx hb hml hown hg hP hD hK hS hA hnw hgk (s_isSignB l D ks H.size ad kk V19 L20 45 hMV19 (show 1 ≤ (V19 0 8).toInt from by (first | exact om_e3c391a03e81 bf xlp22_1 | omega))) w2071 w2073 w95 w172 w2074 rfl rfl hdV_yX12_isSign ⟨Nat.le_of_ble_eq_true rfl, Nat.le_of_ble_eq_true rfl⟩ rfl hl.1 rfl (Nat.le_of_ble_eq_true rfl) dX12_sum_16 ⟨Nat.le_of_ble_eq_true rfl, Nat.le_of_ble_eq_true rfl⟩) hP hD hK hS hA (fun z34 u35 H locs w36 hP hD hK hS => ?_)
        have rgz34 := w36
        have rgz34 : 0 ≤ z34.toInt ∧ z34.toInt ≤ 0 := rgz34
        refine lv_if_eq (tgt := 64) hx hb dX12_sum_19 (by decide) (fun c37 => ?_) (fun c37 => ?_)
        · skip
          have f38 : z34.toInt = 0 := b_eq rfl (by decide) c37
          have rw39 : NoV 35 V V19 := (fun k => (xlp22_8 k))
          have rw40 : NoV 37 V V19 := (fun k => (xlp22_9 k))
          have rw41 : NoL 36 L L20 := (fun k => (xlp22_10 k))
          have rw42 : NoL 38 L L20 := (fun k => (xlp22_11 k))
          exact W.vret hx hb hr (fun t ht hW => ⟨⟨(V19, L20), rfl, ⟨hMV19, agV19, alL20, (show (V19 0 48).toInt = (V 0 48).toInt from by (first | exact om_570b691c1130 xlp22_2 | omega)), (show (V19 0 50).toInt = (V 0 50).toInt from by (first | exact om_570b691c1130 xlp22_3 | omega)), (show (V19 0 8).toInt = (V 0 8).toInt from by (first | exact om_570b691c1130 xlp22_1 | omega)), rw39, rw40, rw41, rw42⟩, by rw [ht]; exact hP, va_K.moved hW.alike hK, hD⟩, hS.F ht⟩) hS.2.2 dX12_sum_64
        · skip
          have f43 : z34.toInt ≠ 0 := b_neq rfl (by decide) c37
          exfalso; (first | exact om_0e608cc4b4f6 rgz34.1 rgz34.2 f43 | omega)
  have rw44 : NoV 35 V V13 := (fun k => ((t9 k).trans rfl))
  have rw45 : NoV 37 V V13 := (fun k => ((t10 k).trans rfl))
  have rw46 : NoL 36 L L14 := (fun k => ((t11 k).trans rfl))
  have rw47 : NoL 38 L L14 := (fun k => ((t12 k).trans rfl))
  have rw48 : NoV 35 V V13 := (fun k => ((t9 k).trans rfl))
  have rw49 : NoV 37 V V13 := (fun k => ((t10 k).trans rfl))
  have rw50 : NoL 36 L L14 := (fun k => ((t11 k).trans rfl))
  have rw51 : NoL 38 L L14 := (fun k => ((t12 k).trans rfl))
  exact lp22 ((1 + 1 : Int).toNat) 1 V13 L14 H locs ls (show 0 ≤ 1 from by omega) (show (V13 0 8).toInt = (V 0 8).toInt from by (first | exact om_570b691c1130 t8 | omega)) (show (V13 0 48).toInt = (V 0 48).toInt from by (first | exact om_570b691c1130 t6 | omega)) (show (V13 0 50).toInt = (V 0 50).toInt from by (first | exact om_570b691c1130 t7 | omega)) rw44 rw45 rw46 rw47 rw48 rw49 rw50 rw51 (by (first | exact om_698b445651e6 | omega)) alL14 agr.rf hMV13 hP hD hS (lv_sub hl [0] rfl)
abbrev r_s_expressionB : Room := { frames := 4, cells := 0, slots := 0, locals := 86 }
abbrev q_s_expressionB (D : va_G) (ks : KS) (ad : Nat → Nat) (kk : Nat → ClassId) (V : Vf) (L : Lf) (A : Nat → Prop) : Array Value → State → Outcome → State → Prop := va_Qv (fun (u : Vf × Lf) => rgd bM u.1 ∧ agr [(0, 7), (0, 8), (0, 48), (0, 50)] [35, 36, 37, 38, 45, 46, 47] V u.1 ∧ agL [35, 36, 37, 38, 45, 46, 47] L u.2 ∧ ((u.1 0 48).toInt = (V 0 48).toInt) ∧ ((u.1 0 50).toInt = (V 0 50).toInt) ∧ ((u.1 0 8).toInt = (V 0 8).toInt) ∧ (NoV 35 V u.1) ∧ (NoV 37 V u.1) ∧ (NoL 36 L u.2) ∧ (NoL 38 L u.2)) (fun u t => gq D A (mw ad kk ks.1 u.1 u.2) (mty kk) t) A
set_option maxHeartbeats 4000000 in
set_option maxRecDepth 100000 in
theorem s_expressionB (l : Launch) (D : va_G) (ks : KS) (sz : Nat) (ad : Nat → Nat) (kk : Nat → ClassId) (V : Vf) (L : Lf)  (hMV : rgd bM V) (bf : 1 ≤ (V 0 8).toInt) (bd : (V 0 50).toInt ≤ 8)  : Met l yX12_expression (Cond.code yX12_expression cX12_expression 3 none :: GW) r_s_expressionB (va_Pc [.ref (ad 0)] (gp D ks (mw ad kk ks.1 V L) (mty kk) sz)) (q_s_expressionB D ks ad kk V L  (va_A (mw ad kk ks.1 V L) sz)) 0 0 (va_A (mw ad kk ks.1 V L) sz) := by
  refine g_met (q_s_expressionB D ks ad kk V L) (by decide) (Nat.le_of_ble_eq_true rfl) ?_
  intro p e s m below meth c A ls H locs hx hb hr hml hown hg hlocks hin hnw hgk hP hK hD hS hA hl
  have hown : s.vm.findClass RX12 = some m.cls := hown
  have hl : lv_has ls 3 [(0, .ref (ad 0))] := hl
  have hP : va_P D vwCl (mw ad kk ks.1 V L) H := hP
  have hD : va_D A (mw ad kk ks.1 V L) := hD
  have hK : va_K D vwCl (mty kk) s := hK
  have agV : agr [(0, 7), (0, 8), (0, 48), (0, 50)] [35, 36, 37, 38, 45, 46, 47] V V := agr.rf
  have alL : agL [35, 36, 37, 38, 45, 46, 47] L L := agL.rf
  have r1 : 0 ≤ ((V 0 8)).toInt ∧ ((V 0 8)).toInt ≤ 70000 := hMV 0 8
  have r2 : 0 ≤ ((V 0 50)).toInt ∧ ((V 0 50)).toInt ≤ 9 := hMV 0 50
  refine lv_aload_n hx hb dX12_expression_0 rfl (lv_at hl 0 rfl) ?_
  refine gA_void (gA_runV (As := []) (rest := []) (ci := 12) (q0 := 0) hx hb hml hown hg hP hD hK hS hA hnw hgk (s_sumB l D ks H.size ad kk V L  hMV (show 1 ≤ (V 0 8).toInt from by (first | exact om_f8d8213eda45 bf | omega)) (show (V 0 50).toInt ≤ 8 from by (first | exact om_f1be64229e31 bd | omega))) w2120 w2122 w107 w172 w2123 rfl rfl hdV_yX12_sum ⟨Nat.le_of_ble_eq_true rfl, Nat.le_of_ble_eq_true rfl⟩ rfl hl.1 rfl (Nat.le_of_ble_eq_true rfl) dX12_expression_1 ⟨Nat.le_of_ble_eq_true rfl, Nat.le_of_ble_eq_true rfl⟩) hP hD hK hS hA (fun u4 H locs w5 hP hD hK hS => ?_)
  obtain ⟨V13, L14⟩ := u4
  obtain ⟨hMV13, ajV13, axL14, t6, t7, t8, t9, t10, t11, t12⟩ := w5
  have alL14 : agL [35, 36, 37, 38, 45, 46, 47] L L14 := agL.tr alL axL14 (by decide)
  have hP : va_P D vwCl (mw ad kk ks.1 V13 L14) H := hP
  have hD : va_D A (mw ad kk ks.1 V13 L14) := hD
  have hMV13 : rgd bM V13 := hMV13
  have ajV13 : agr [(0, 7), (0, 8), (0, 48), (0, 50)] [35, 36, 37, 38, 45, 46, 47] V V13 := ajV13
  have agV13 : agr [(0, 7), (0, 8), (0, 48), (0, 50)] [35, 36, 37, 38, 45, 46, 47] V V13 := agV.tr ajV13 (by decide) (by decide)
  have t6 : (V13 0 48).toInt = (V 0 48).toInt := t6
  have t7 : (V13 0 50).toInt = (V 0 50).toInt := t7
  have t8 : (V13 0 8).toInt = (V 0 8).toInt := t8
  have t9 : NoV 35 V V13 := t9
  have t10 : NoV 37 V V13 := t10
  have t11 : NoL 36 L L14 := t11
  have t12 : NoL 38 L L14 := t12
  have r15 : 0 ≤ ((V 0 48)).toInt ∧ ((V 0 48)).toInt ≤ 10000 := hMV 0 48
  have r16 : 0 ≤ ((V13 0 48)).toInt ∧ ((V13 0 48)).toInt ≤ 10000 := hMV13 0 48
  have r17 : 0 ≤ ((V13 0 50)).toInt ∧ ((V13 0 50)).toInt ≤ 9 := hMV13 0 50
  have r18 : 0 ≤ ((V13 0 8)).toInt ∧ ((V13 0 8)).toInt ≤ 70000 := hMV13 0 8
  refine lv_aload_n hx hb dX12_expression_4 rfl (lv_at hl 0 rfl) ?_
  refine lv_bipush (v := 60) hx hb dX12_expression_5 (by decide) ?_
  have r19 : Int32.toInt 60 = 60 := by decide
  refine gA_int (gA_runV (As := [.int 60]) (rest := []) (ci := 12) (q0 := 0) hx hb hml hown hg hP hD hK hS hA hnw hgk (s_isSignB l D ks H.size ad kk V13 L14 60 hMV13 (show 1 ≤ (V13 0 8).toInt from by (first | exact om_e3c391a03e81 bf t8 | omega))) w2071 w2073 w95 w172 w2074 rfl rfl hdV_yX12_isSign ⟨Nat.le_of_ble_eq_true rfl, Nat.le_of_ble_eq_true rfl⟩ rfl hl.1 rfl (Nat.le_of_ble_eq_true rfl) dX12_expression_7 ⟨Nat.le_of_ble_eq_true rfl, Nat.le_of_ble_eq_true rfl⟩) hP hD hK hS hA (fun z20 u21 H locs w22 hP hD hK hS => ?_)
  have rgz20 := w22
  have rgz20 : 0 ≤ z20.toInt ∧ z20.toInt ≤ 0 := rgz20
  refine lv_istore_n (lv' := [(1, .int z20), (0, .ref (ad 0))]) hx hb dX12_expression_10 rfl hl (by decide) rfl (fun ls hl => ?_)
  refine lv_iload_n hx hb dX12_expression_11 rfl (lv_at hl 0 rfl) ?_
  refine lv_if_ne (tgt := 24) hx hb dX12_expression_12 (by decide) (fun c23 => ?_) (fun c23 => ?_)
  · skip
    have f24 : z20.toInt ≠ 0 := b_neq rfl (by decide) c23
    exfalso; (first | exact om_0e608cc4b4f6 rgz20.1 rgz20.2 f24 | omega)
  · skip
    have f25 : z20.toInt = 0 := b_eq rfl (by decide) c23
    refine lv_aload_n hx hb dX12_expression_15 rfl (lv_at hl 1 rfl) ?_
    refine lv_bipush (v := 61) hx hb dX12_expression_16 (by decide) ?_
    have r26 : Int32.toInt 61 = 61 := by decide
    refine gA_int (gA_runV (As := [.int 61]) (rest := []) (ci := 12) (q0 := 0) hx hb hml hown hg hP hD hK hS hA hnw hgk (s_isSignB l D ks H.size ad kk V13 L14 61 hMV13 (show 1 ≤ (V13 0 8).toInt from by (first | exact om_e3c391a03e81 bf t8 | omega))) w2071 w2073 w95 w172 w2074 rfl rfl hdV_yX12_isSign ⟨Nat.le_of_ble_eq_true rfl, Nat.le_of_ble_eq_true rfl⟩ rfl hl.1 rfl (Nat.le_of_ble_eq_true rfl) dX12_expression_18 ⟨Nat.le_of_ble_eq_true rfl, Nat.le_of_ble_eq_true rfl⟩) hP hD hK hS hA (fun z27 u28 H locs w29 hP hD hK hS => ?_)
    have rgz27 := w29
    have rgz27 : 0 ≤ z27.toInt ∧ z27.toInt ≤ 0 := rgz27
    refine lv_if_eq (tgt := 56) hx hb dX12_expression_21 (by decide) (fun c30 => ?_) (fun c30 => ?_)
    · skip
      have f31 : z27.toInt = 0 := b_eq rfl (by decide) c30
      have rw32 : NoV 35 V V13 := (fun k => ((t9 k).trans rfl))
      have rw33 : NoV 37 V V13 := (fun k => ((t10 k).trans rfl))
      have rw34 : NoL 36 L L14 := (fun k => ((t11 k).trans rfl))
      have rw35 : NoL 38 L L14 := (fun k => ((t12 k).trans rfl))
      exact W.vret hx hb hr (fun t ht hW => ⟨⟨(V13, L14), rfl, ⟨hMV13, agV13, alL14, (show (V13 0 48).toInt = (V 0 48).toInt from by (first | exact om_570b691c1130 t6 | omega)), (show (V13 0 50).toInt = (V 0 50).toInt from by (first | exact om_570b691c1130 t7 | omega)), (show (V13 0 8).toInt = (V 0 8).toInt from by (first | exact om_570b691c1130 t8 | omega)), rw32, rw33, rw34, rw35⟩, by rw [ht]; exact hP, va_K.moved hW.alike hK, hD⟩, hS.F ht⟩) hS.2.2 dX12_expression_56
    · skip
      have f36 : z27.toInt ≠ 0 := b_neq rfl (by decide) c30
      exfalso; (first | exact om_0e608cc4b4f6 rgz27.1 rgz27.2 f36 | omega)
abbrev r_s_bracketedB : Room := { frames := 5, cells := 0, slots := 0, locals := 108 }
abbrev q_s_bracketedB (D : va_G) (ks : KS) (ad : Nat → Nat) (kk : Nat → ClassId) (V : Vf) (L : Lf) (A : Nat → Prop) : Array Value → State → Outcome → State → Prop := va_Qv (fun (u : Vf × Lf) => rgd bM u.1 ∧ agr [(0, 7), (0, 8), (0, 48), (0, 50)] [35, 36, 37, 38, 45, 46, 47] V u.1 ∧ agL [35, 36, 37, 38, 45, 46, 47] L u.2 ∧ ((u.1 0 48).toInt = (V 0 48).toInt) ∧ ((u.1 0 50).toInt = (V 0 50).toInt) ∧ ((u.1 0 8).toInt = (V 0 8).toInt) ∧ (NoV 35 V u.1) ∧ (NoV 37 V u.1) ∧ (NoL 36 L u.2) ∧ (NoL 38 L u.2)) (fun u t => gq D A (mw ad kk ks.1 u.1 u.2) (mty kk) t) A
set_option maxHeartbeats 4000000 in
set_option maxRecDepth 100000 in
theorem s_bracketedB (l : Launch) (D : va_G) (ks : KS) (sz : Nat) (ad : Nat → Nat) (kk : Nat → ClassId) (V : Vf) (L : Lf)  (hMV : rgd bM V) (bf : 1 ≤ (V 0 8).toInt) (bd : (V 0 50).toInt ≤ 8)  : Met l yX12_bracketed (Cond.code yX12_bracketed cX12_bracketed 1 none :: GW) r_s_bracketedB (va_Pc [.ref (ad 0)] (gp D ks (mw ad kk ks.1 V L) (mty kk) sz)) (q_s_bracketedB D ks ad kk V L  (va_A (mw ad kk ks.1 V L) sz)) 0 0 (va_A (mw ad kk ks.1 V L) sz) := by
  refine g_met (q_s_bracketedB D ks ad kk V L) (by decide) (Nat.le_of_ble_eq_true rfl) ?_
  intro p e s m below meth c A ls H locs hx hb hr hml hown hg hlocks hin hnw hgk hP hK hD hS hA hl
  have hown : s.vm.findClass RX12 = some m.cls := hown
  have hl : lv_has ls 1 [(0, .ref (ad 0))] := hl
  have hP : va_P D vwCl (mw ad kk ks.1 V L) H := hP
  have hD : va_D A (mw ad kk ks.1 V L) := hD
  have hK : va_K D vwCl (mty kk) s := hK
  have agV : agr [(0, 7), (0, 8), (0, 48), (0, 50)] [35, 36, 37, 38, 45, 46, 47] V V := agr.rf
  have alL : agL [35, 36, 37, 38, 45, 46, 47] L L := agL.rf
  have r1 : 0 ≤ ((V 0 8)).toInt ∧ ((V 0 8)).toInt ≤ 70000 := hMV 0 8
  have r2 : 0 ≤ ((V 0 50)).toInt ∧ ((V 0 50)).toInt ≤ 9 := hMV 0 50
  refine lv_aload_n hx hb dX12_bracketed_0 rfl (lv_at hl 0 rfl) ?_
  refine lv_bipush (v := 40) hx hb dX12_bracketed_1 (by decide) ?_
  have r3 : Int32.toInt 40 = 40 := by decide
  refine gA_void (gA_runV (As := [.int 40]) (rest := []) (ci := 12) (q0 := 0) hx hb hml hown hg hP hD hK hS hA hnw hgk (s_takeSignB l D ks H.size ad kk V L 40 hMV (show 1 ≤ (V 0 8).toInt from by (first | exact om_f8d8213eda45 bf | omega))) w2075 w2077 w96 w172 w2078 rfl rfl hdV_yX12_takeSign ⟨Nat.le_of_ble_eq_true rfl, Nat.le_of_ble_eq_true rfl⟩ rfl hl.1 rfl (Nat.le_of_ble_eq_true rfl) dX12_bracketed_3 ⟨Nat.le_of_ble_eq_true rfl, Nat.le_of_ble_eq_true rfl⟩) hP hD hK hS hA (fun u5 H locs w6 hP hD hK hS => ?_)
  obtain ⟨V8, L9⟩ := u5
  obtain ⟨hMV8, ajV8, axL9, t7⟩ := w6
  have axL9 : L = L9 := Eq.symm axL9
  subst axL9
  have hP : va_P D vwCl (mw ad kk ks.1 V8 L) H := hP
  have hD : va_D A (mw ad kk ks.1 V8 L) := hD
  have hMV8 : rgd bM V8 := hMV8
  have ajV8 : agr [(0, 7), (0, 8)] [] V V8 := ajV8
  have agV8 : agr [(0, 7), (0, 8), (0, 48), (0, 50)] [35, 36, 37, 38, 45, 46, 47] V V8 := agV.tr ajV8 (by decide) (by decide)
  have t7 : (V8 0 8).toInt = (V 0 8).toInt := t7
  have r10 : 0 ≤ ((V8 0 8)).toInt ∧ ((V8 0 8)).toInt ≤ 70000 := hMV8 0 8
  refine lv_aload_n hx hb dX12_bracketed_6 rfl (lv_at hl 0 rfl) ?_
  have pq11 : (V8 0 50).toInt = ((V 0 50)).toInt := congrArg Int32.toInt (ajV8 0 50 rfl)
  refine gA_void (gA_runV (As := []) (rest := []) (ci := 12) (q0 := 0) hx hb hml hown hg hP hD hK hS hA hnw hgk (s_expressionB l D ks H.size ad kk V8 L  hMV8 (show 1 ≤ (V8 0 8).toInt from by (first | exact om_e3c391a03e81 bf t7 | omega)) (show (V8 0 50).toInt ≤ 8 from by (first | exact om_0f4004050cf0 bd pq11 | omega))) w2116 w2118 w106 w172 w2119 rfl rfl hdV_yX12_expression ⟨Nat.le_of_ble_eq_true rfl, Nat.le_of_ble_eq_true rfl⟩ rfl hl.1 rfl (Nat.le_of_ble_eq_true rfl) dX12_bracketed_7 ⟨Nat.le_of_ble_eq_true rfl, Nat.le_of_ble_eq_true rfl⟩) hP hD hK hS hA (fun u13 H locs w14 hP hD hK hS => ?_)
  obtain ⟨V22, L23⟩ := u13
  obtain ⟨hMV22, ajV22, axL23, t15, t16, t17, t18, t19, t20, t21⟩ := w14
  have alL23 : agL [35, 36, 37, 38, 45, 46, 47] L L23 := agL.tr alL axL23 (by decide)
  have hP : va_P D vwCl (mw ad kk ks.1 V22 L23) H := hP
  have hD : va_D A (mw ad kk ks.1 V22 L23) := hD
  have hMV22 : rgd bM V22 := hMV22
  have ajV22 : agr [(0, 7), (0, 8), (0, 48), (0, 50)] [35, 36, 37, 38, 45, 46, 47] V8 V22 := ajV22
  have agV22 : agr [(0, 7), (0, 8), (0, 48), (0, 50)] [35, 36, 37, 38, 45, 46, 47] V V22 := agV8.tr ajV22 (by decide) (by decide)
  have t15 : (V22 0 48).toInt = (V8 0 48).toInt := t15
  have t16 : (V22 0 50).toInt = (V8 0 50).toInt := t16
  have t17 : (V22 0 8).toInt = (V8 0 8).toInt := t17
  have t18 : NoV 35 V8 V22 := t18
  have t19 : NoV 37 V8 V22 := t19
  have t20 : NoL 36 L L23 := t20
  have t21 : NoL 38 L L23 := t21
  have pq24 : (V8 0 48).toInt = ((V 0 48)).toInt := congrArg Int32.toInt (ajV8 0 48 rfl)
  have r25 : 0 ≤ ((V 0 48)).toInt ∧ ((V 0 48)).toInt ≤ 10000 := hMV 0 48
  have r26 : 0 ≤ ((V22 0 48)).toInt ∧ ((V22 0 48)).toInt ≤ 10000 := hMV22 0 48
  have r27 : 0 ≤ ((V22 0 50)).toInt ∧ ((V22 0 50)).toInt ≤ 9 := hMV22 0 50
  have r28 : 0 ≤ ((V22 0 8)).toInt ∧ ((V22 0 8)).toInt ≤ 70000 := hMV22 0 8
  refine lv_aload_n hx hb dX12_bracketed_10 rfl (lv_at hl 0 rfl) ?_
  refine lv_bipush (v := 41) hx hb dX12_bracketed_11 (by decide) ?_
  have r29 : Int32.toInt 41 = 41 := by decide
  refine gA_void (gA_runV (As := [.int 41]) (rest := []) (ci := 12) (q0 := 0) hx hb hml hown hg hP hD hK hS hA hnw hgk (s_takeSignB l D ks H.size ad kk V22 L23 41 hMV22 (show 1 ≤ (V22 0 8).toInt from by (first | exact om_2487ca371d8b bf t7 t17 | omega))) w2075 w2077 w96 w172 w2078 rfl rfl hdV_yX12_takeSign ⟨Nat.le_of_ble_eq_true rfl, Nat.le_of_ble_eq_true rfl⟩ rfl hl.1 rfl (Nat.le_of_ble_eq_true rfl) dX12_bracketed_13 ⟨Nat.le_of_ble_eq_true rfl, Nat.le_of_ble_eq_true rfl⟩) hP hD hK hS hA (fun u31 H locs w32 hP hD hK hS => ?_)
  obtain ⟨V34, L35⟩ := u31
  obtain ⟨hMV34, ajV34, axL35, t33⟩ := w32
  have axL35 : L23 = L35 := Eq.symm axL35
  subst axL35
  have hP : va_P D vwCl (mw ad kk ks.1 V34 L23) H := hP
  have hD : va_D A (mw ad kk ks.1 V34 L23) := hD
  have hMV34 : rgd bM V34 := hMV34
  have ajV34 : agr [(0, 7), (0, 8)] [] V22 V34 := ajV34
  have agV34 : agr [(0, 7), (0, 8), (0, 48), (0, 50)] [35, 36, 37, 38, 45, 46, 47] V V34 := agV22.tr ajV34 (by decide) (by decide)
  have t33 : (V34 0 8).toInt = (V22 0 8).toInt := t33
  have r36 : 0 ≤ ((V34 0 8)).toInt ∧ ((V34 0 8)).toInt ≤ 70000 := hMV34 0 8
  have pq37 : (V34 0 48).toInt = ((V22 0 48)).toInt := congrArg Int32.toInt (ajV34 0 48 rfl)
  have pq38 : (V34 0 50).toInt = ((V22 0 50)).toInt := congrArg Int32.toInt (ajV34 0 50 rfl)
  have rw39 : NoV 35 V V34 := (fun k => ((ajV34 35 k rfl).trans ((t18 k).trans ((ajV8 35 k rfl).trans rfl))))
  have rw40 : NoV 37 V V34 := (fun k => ((ajV34 37 k rfl).trans ((t19 k).trans ((ajV8 37 k rfl).trans rfl))))
  have rw41 : NoL 36 L L23 := (fun k => ((t20 k).trans rfl))
  have rw42 : NoL 38 L L23 := (fun k => ((t21 k).trans rfl))
  exact W.vret hx hb hr (fun t ht hW => ⟨⟨(V34, L23), rfl, ⟨hMV34, agV34, alL23, (show (V34 0 48).toInt = (V 0 48).toInt from by (first | exact om_8e16e18f2461 t15 pq24 pq37 | omega)), (show (V34 0 50).toInt = (V 0 50).toInt from by (first | exact om_a0c405496c73 pq11 t16 pq38 | omega)), (show (V34 0 8).toInt = (V 0 8).toInt from by (first | exact om_a0c405496c73 t7 t17 t33 | omega)), rw39, rw40, rw41, rw42⟩, by rw [ht]; exact hP, va_K.moved hW.alike hK, hD⟩, hS.F ht⟩) hS.2.2 dX12_bracketed_16
abbrev r_s_codeB : Room := { frames := 5, cells := 0, slots := 0, locals := 108 }
abbrev q_s_codeB (D : va_G) (ks : KS) (ad : Nat → Nat) (kk : Nat → ClassId) (V : Vf) (L : Lf) (A : Nat → Prop) : Array Value → State → Outcome → State → Prop := va_Qi (fun (r : Int32) (u : Vf × Lf) => rgd bM u.1 ∧ agr [(0, 7), (0, 8), (0, 48), (0, 50)] [35, 36, 37, 38, 45, 46, 47] V u.1 ∧ agL [35, 36, 37, 38, 45, 46, 47] L u.2 ∧ (0 ≤ r.toInt ∧ r.toInt ≤ 20000) ∧ ((u.1 0 48).toInt = (V 0 48).toInt + 1) ∧ ((u.1 0 8).toInt = (V 0 8).toInt) ∧ (NoV 35 V u.1) ∧ (NoV 37 V u.1) ∧ (NoL 36 L u.2) ∧ (NoL 38 L u.2)) (fun u t => gq D A (mw ad kk ks.1 u.1 u.2) (mty kk) t) A
set_option maxHeartbeats 4000000 in
set_option maxRecDepth 100000 in
theorem s_codeB (l : Launch) (D : va_G) (ks : KS) (sz : Nat) (ad : Nat → Nat) (kk : Nat → ClassId) (V : Vf) (L : Lf)  (hMV : rgd bM V) (bf : 1 ≤ (V 0 8).toInt) (bc : (V 0 48).toInt ≤ 9000)  : Met l yX12_code (Cond.code yX12_code cX12_code 3 (some .int) :: GW) r_s_codeB (va_Pc [.ref (ad 0)] (gp D ks (mw ad kk ks.1 V L) (mty kk) sz)) (q_s_codeB D ks ad kk V L  (va_A (mw ad kk ks.1 V L) sz)) 0 0 (va_A (mw ad kk ks.1 V L) sz) := by
  refine g_met (q_s_codeB D ks ad kk V L) (by decide) (Nat.le_of_ble_eq_true rfl) ?_
  intro p e s m below meth c A ls H locs hx hb hr hml hown hg hlocks hin hnw hgk hP hK hD hS hA hl
  have hown : s.vm.findClass RX12 = some m.cls := hown
  have hl : lv_has ls 3 [(0, .ref (ad 0))] := hl
  have hP : va_P D vwCl (mw ad kk ks.1 V L) H := hP
  have hD : va_D A (mw ad kk ks.1 V L) := hD
  have hK : va_K D vwCl (mty kk) s := hK
  have agV : agr [(0, 7), (0, 8), (0, 48), (0, 50)] [35, 36, 37, 38, 45, 46, 47] V V := agr.rf
  have alL : agL [35, 36, 37, 38, 45, 46, 47] L L := agL.rf
  have r1 : 0 ≤ ((V 0 8)).toInt ∧ ((V 0 8)).toInt ≤ 70000 := hMV 0 8
  have r2 : 0 ≤ ((V 0 48)).toInt ∧ ((V 0 48)).toInt ≤ 10000 := hMV 0 48
  refine lv_aload_n hx hb dX12_code_0 rfl (lv_at hl 0 rfl) ?_
  refine va_get (D := D) (ci := 12) (v := .int (V 0 49)) (C := RX12) (T := TX12) (N := 100) hx hb hg inX12 hown hK hP 0 rfl rfl 49 (by decide) (hg _ w1755) (fun _ h9 => h9) rfl dX12_code_1 ?_
  have r3 : 0 ≤ ((V 0 49)).toInt ∧ ((V 0 49)).toInt ≤ 10000 := hMV 0 49
  refine lv_aload_n hx hb dX12_code_4 rfl (lv_at hl 0 rfl) ?_
  refine va_get (D := D) (ci := 12) (v := .int (V 0 48)) (C := RX12) (T := TX12) (N := 100) hx hb hg inX12 hown hK hP 0 rfl rfl 48 (by decide) (hg _ w1754) (fun _ h9 => h9) rfl dX12_code_5 ?_
  refine lv_iadd hx hb dX12_code_8 ?_
  refine lv_topi (fun z4 ez4 => ?_)
  have hz4 : z4.toInt = ((V 0 49)).toInt + ((V 0 48)).toInt := i_add ez4 rfl rfl (by (first | exact om_4c5c8c302950 bc r2.1 r3.1 r3.2 | omega))
  refine lv_istore_n (lv' := [(1, .int z4), (0, .ref (ad 0))]) hx hb dX12_code_9 rfl hl (by decide) rfl (fun ls hl => ?_)
  refine lv_aload_n hx hb dX12_code_10 rfl (lv_at hl 1 rfl) ?_
  refine lv_iconst (v := 0) hx hb dX12_code_11 (by decide) ?_
  refine va_put (D := D) (ci := 12) (v := .int 0) (ty := tyX12 50) (C := RX12) (T := TX12) (N := 100) hx hb hg inX12 tyX12 tyX12_ok nmX12 hown hK hP hD hS 0 rfl rfl 50 (by decide) (hg _ w1756) (fun _ h9 => h9) rfl (tyX12_ok 50 (by decide)) rfl rfl (Nat.le_of_ble_eq_true rfl) dX12_code_12 (fun H locs hP hD hS => ?_)
  obtain ⟨V5, hV5⟩ : ∃ z, z = up2 V 0 50 0 := ⟨_, rfl⟩
  have hP : va_P D vwCl (mw ad kk ks.1 V5 L) H := by rw [hV5]; exact hP
  have hD : va_D A (mw ad kk ks.1 V5 L) := by rw [hV5]; exact hD
  have hMV5 : rgd bM V5 := hMV.put hV5 (by decide)
  have agV5 : agr [(0, 7), (0, 8), (0, 48), (0, 50)] [35, 36, 37, 38, 45, 46, 47] V V5 := agV.up hV5 rfl
  refine lv_aload_n hx hb dX12_code_15 rfl (lv_at hl 1 rfl) ?_
  have pq6 : (V5 0 8).toInt = ((V 0 8)).toInt := congrArg Int32.toInt (up2_k hV5 (by decide))
  have pq7 : (V5 0 50).toInt = 0 := (congrArg Int32.toInt (up2_s hV5)).trans (by decide)
  refine gA_void (gA_runV (As := []) (rest := []) (ci := 12) (q0 := 0) hx hb hml hown hg hP hD hK hS hA hnw hgk (s_expressionB l D ks H.size ad kk V5 L  hMV5 (show 1 ≤ (V5 0 8).toInt from by (first | exact om_e3c391a03e81 bf pq6 | omega)) (show (V5 0 50).toInt ≤ 8 from by (first | exact om_e18c581db458 pq7 | omega))) w2116 w2118 w106 w172 w2119 rfl rfl hdV_yX12_expression ⟨Nat.le_of_ble_eq_true rfl, Nat.le_of_ble_eq_true rfl⟩ rfl hl.1 rfl (Nat.le_of_ble_eq_true rfl) dX12_code_16 ⟨Nat.le_of_ble_eq_true rfl, Nat.le_of_ble_eq_true rfl⟩) hP hD hK hS hA (fun u9 H locs w10 hP hD hK hS => ?_)
  obtain ⟨V18, L19⟩ := u9
  obtain ⟨hMV18, ajV18, axL19, t11, t12, t13, t14, t15, t16, t17⟩ := w10
  have alL19 : agL [35, 36, 37, 38, 45, 46, 47] L L19 := agL.tr alL axL19 (by decide)
  have hP : va_P D vwCl (mw ad kk ks.1 V18 L19) H := hP
  have hD : va_D A (mw ad kk ks.1 V18 L19) := hD
  have hMV18 : rgd bM V18 := hMV18
  have ajV18 : agr [(0, 7), (0, 8), (0, 48), (0, 50)] [35, 36, 37, 38, 45, 46, 47] V5 V18 := ajV18
  have agV18 : agr [(0, 7), (0, 8), (0, 48), (0, 50)] [35, 36, 37, 38, 45, 46, 47] V V18 := agV5.tr ajV18 (by decide) (by decide)
  have t11 : (V18 0 48).toInt = (V5 0 48).toInt := t11
  have t12 : (V18 0 50).toInt = (V5 0 50).toInt := t12
  have t13 : (V18 0 8).toInt = (V5 0 8).toInt := t13
  have t14 : NoV 35 V5 V18 := t14
  have t15 : NoV 37 V5 V18 := t15
  have t16 : NoL 36 L L19 := t16
  have t17 : NoL 38 L L19 := t17
  have pq20 : (V5 0 48).toInt = ((V 0 48)).toInt := congrArg Int32.toInt (up2_k hV5 (by decide))
  have r21 : 0 ≤ ((V18 0 48)).toInt ∧ ((V18 0 48)).toInt ≤ 10000 := hMV18 0 48
  have r22 : 0 ≤ ((V18 0 50)).toInt ∧ ((V18 0 50)).toInt ≤ 9 := hMV18 0 50
  have r23 : 0 ≤ ((V18 0 8)).toInt ∧ ((V18 0 8)).toInt ≤ 70000 := hMV18 0 8
  refine lv_aload_n hx hb dX12_code_19 rfl (lv_at hl 1 rfl) ?_
  refine lv_iconst (v := 0) hx hb dX12_code_20 (by decide) ?_
  refine lv_iconst (v := 0) hx hb dX12_code_21 (by decide) ?_
  refine lv_iconst (v := 0) hx hb dX12_code_22 (by decide) ?_
  have r24 : Int32.toInt 0 = 0 := by decide
  refine gA_int (gA_runV (As := [.int 0, .int 0, .int 0]) (rest := []) (ci := 12) (q0 := 0) hx hb hml hown hg hP hD hK hS hA hnw hgk (s_emit3 l D ks H.size ad kk V18 L19 0 0 0 hMV18 (show (V18 0 48).toInt ≤ 9999 from by (first | exact om_c99a58c6517c bc t11 pq20 | omega))) w2136 w2138 w111 w172 w2139 rfl rfl hdV_yX12_emit ⟨Nat.le_of_ble_eq_true rfl, Nat.le_of_ble_eq_true rfl⟩ rfl hl.1 rfl (Nat.le_of_ble_eq_true rfl) dX12_code_23 ⟨Nat.le_of_ble_eq_true rfl, Nat.le_of_ble_eq_true rfl⟩) hP hD hK hS hA (fun z25 u26 H locs w27 hP hD hK hS => ?_)
  obtain ⟨V31, L32⟩ := u26
  obtain ⟨hMV31, ajV31, axL32, rgz25, t28, t29, t30⟩ := w27
  have axL32 : L19 = L32 := Eq.symm axL32
  subst axL32
  have hP : va_P D vwCl (mw ad kk ks.1 V31 L19) H := hP
  have hD : va_D A (mw ad kk ks.1 V31 L19) := hD
  have hMV31 : rgd bM V31 := hMV31
  have ajV31 : agr [(0, 48)] [45, 46, 47] V18 V31 := ajV31
  have agV31 : agr [(0, 7), (0, 8), (0, 48), (0, 50)] [35, 36, 37, 38, 45, 46, 47] V V31 := agV18.tr ajV31 (by decide) (by decide)
  have rgz25 : 0 ≤ z25.toInt ∧ z25.toInt ≤ 20000 := rgz25
  have t28 : (V31 0 48).toInt = (V18 0 48).toInt + 1 := t28
  have t29 : z25.toInt = (V18 0 49).toInt + (V18 0 48).toInt := t29
  have t30 : emitted V18 V31 (pA V18) 0 0 0 := t30
  have r33 : 0 ≤ ((V31 0 48)).toInt ∧ ((V31 0 48)).toInt ≤ 10000 := hMV31 0 48
  have pq34 : (V18 0 49).toInt = ((V 0 49)).toInt := congrArg Int32.toInt ((ajV18 0 49 rfl).trans (up2_k hV5 (by decide)))
  refine lv_istore_n (lv' := [(2, .int z25), (1, .int z4), (0, .ref (ad 0))]) hx hb dX12_code_26 rfl hl (by decide) rfl (fun ls hl => ?_)
  refine lv_iload_n hx hb dX12_code_27 rfl (lv_at hl 1 rfl) ?_
  have pq35 : (V31 0 8).toInt = ((V18 0 8)).toInt := congrArg Int32.toInt (ajV31 0 8 rfl)
  have rw36 : NoV 35 V V31 := (fun k => ((ajV31 35 k rfl).trans ((t14 k).trans ((up2_o hV5 (by decide)).trans rfl))))
  have rw37 : NoV 37 V V31 := (fun k => ((ajV31 37 k rfl).trans ((t15 k).trans ((up2_o hV5 (by decide)).trans rfl))))
  have rw38 : NoL 36 L L19 := (fun k => ((t16 k).trans rfl))
  have rw39 : NoL 38 L L19 := (fun k => ((t17 k).trans rfl))
  exact W.iret (v := z4) hx hb hr (fun t ht hW => ⟨⟨z4, (V31, L19), rfl, ⟨hMV31, agV31, alL19, (show 0 ≤ z4.toInt ∧ z4.toInt ≤ 20000 from by (first | exact om_cc96ff50f1bd bc r3.1 r3.2 hz4 t11 pq20 r21.1 | omega)), (show (V31 0 48).toInt = (V 0 48).toInt + 1 from by (first | exact om_97713d65e952 t11 pq20 t28 | omega)), (show (V31 0 8).toInt = (V 0 8).toInt from by (first | exact om_a0c405496c73 pq6 t13 pq35 | omega)), rw36, rw37, rw38, rw39⟩, by rw [ht]; exact hP, va_K.moved hW.alike hK, hD⟩, hS.F ht⟩) hS.2.2 dX12_code_28
abbrev q_s_expressionA (D : va_G) (ks : KS) (ad : Nat → Nat) (kk : Nat → ClassId) (V : Vf) (L : Lf) (bq : Nat) (gn : Nat) (gT : Tk) (gs : St) (gl : List Int64) (gd : Nat) (A : Nat → Prop) : Array Value → State → Outcome → State → Prop := va_Qv (fun (u : Vf × Lf) => rgd bM u.1 ∧ agr [(0, 7), (0, 8), (0, 48), (0, 50)] [35, 36, 37, 38, 45, 46, 47] V u.1 ∧ agL [35, 36, 37, 38, 45, 46, 47] L u.2 ∧ (Imp ((u.1 0 8).toInt = 0) ((u.1 0 48).toInt - (V 0 48).toInt ≤ 2 * ((u.1 0 7).toInt - (V 0 7).toInt))) ∧ ((u.1 0 48).toInt ≤ 8051 - 6 * (V 0 50).toInt) ∧ ((u.1 0 50).toInt = (V 0 50).toInt) ∧ ((V 0 48).toInt ≤ (u.1 0 48).toInt) ∧ (RdM gT gs (fun k => Iexpr gd :: k) (fun k => k) (u.1 0 8).toInt (fun s9 => RelM u.1 u.2 bq gn gT s9 gl ∧ keepS gs 1 s9 ∧ keepE gs s9 ∧ CDm u.1 (10000 * bq) s9)) ∧ (RoV 35 bq V u.1) ∧ (RoV 37 bq V u.1) ∧ (RoL 36 20 bq L u.2) ∧ (RoL 38 20 bq L u.2)) (fun u t => gq D A (mw ad kk ks.1 u.1 u.2) (mty kk) t) A
def K_s_expressionA (l : Launch) (D : va_G) (ks : KS) (dd : Nat) : Prop := ∀ (sz : Nat) (ad : Nat → Nat) (kk : Nat → ClassId) (V : Vf) (L : Lf) (bq : Nat) (gn : Nat) (gT : Tk) (gs : St) (gl : List Int64) (gd : Nat) (hMV : rgd bM V) (rel : RelM V L bq gn gT gs gl) (c1 : (V 0 48).toInt ≤ 2 * (V 0 7).toInt) (yd : (V 0 50).toInt = (gd : Int)) (c4 : (V 0 50).toInt + (dd : Int) = 8) (em : EM V gs) (cdm : CDm V (10000 * bq) gs) , Met l yX12_expression (Cond.code yX12_expression cX12_expression 3 none :: GW) (rK 13 420 dd) (va_Pc [.ref (ad 0)] (gp D ks (mw ad kk ks.1 V L) (mty kk) sz)) (q_s_expressionA D ks ad kk V L  bq gn gT gs gl gd (va_A (mw ad kk ks.1 V L) sz)) 0 0 (va_A (mw ad kk ks.1 V L) sz)
abbrev q_s_sumA (D : va_G) (ks : KS) (ad : Nat → Nat) (kk : Nat → ClassId) (V : Vf) (L : Lf) (bq : Nat) (gn : Nat) (gT : Tk) (gs : St) (gl : List Int64) (gd : Nat) (A : Nat → Prop) : Array Value → State → Outcome → State → Prop := va_Qv (fun (u : Vf × Lf) => rgd bM u.1 ∧ agr [(0, 7), (0, 8), (0, 48), (0, 50)] [35, 36, 37, 38, 45, 46, 47] V u.1 ∧ agL [35, 36, 37, 38, 45, 46, 47] L u.2 ∧ (Imp ((u.1 0 8).toInt = 0) ((u.1 0 48).toInt - (V 0 48).toInt ≤ 2 * ((u.1 0 7).toInt - (V 0 7).toInt))) ∧ ((u.1 0 48).toInt ≤ 8050 - 6 * (V 0 50).toInt) ∧ ((u.1 0 50).toInt = (V 0 50).toInt) ∧ ((V 0 48).toInt ≤ (u.1 0 48).toInt) ∧ (RdM gT gs (fun k => Isum gd :: k) (fun k => k) (u.1 0 8).toInt (fun s9 => RelM u.1 u.2 bq gn gT s9 gl ∧ keepS gs 1 s9 ∧ keepE gs s9 ∧ CDm u.1 (10000 * bq) s9)) ∧ (RoV 35 bq V u.1) ∧ (RoV 37 bq V u.1) ∧ (RoL 36 20 bq L u.2) ∧ (RoL 38 20 bq L u.2)) (fun u t => gq D A (mw ad kk ks.1 u.1 u.2) (mty kk) t) A
def K_s_sumA (l : Launch) (D : va_G) (ks : KS) (dd : Nat) : Prop := ∀ (sz : Nat) (ad : Nat → Nat) (kk : Nat → ClassId) (V : Vf) (L : Lf) (bq : Nat) (gn : Nat) (gT : Tk) (gs : St) (gl : List Int64) (gd : Nat) (hMV : rgd bM V) (rel : RelM V L bq gn gT gs gl) (c1 : (V 0 48).toInt ≤ 2 * (V 0 7).toInt) (yd : (V 0 50).toInt = (gd : Int)) (c4 : (V 0 50).toInt + (dd : Int) = 8) (em : EM V gs) (cdm : CDm V (10000 * bq) gs) , Met l yX12_sum (Cond.code yX12_sum cX12_sum 3 none :: GW) (rK 12 380 dd) (va_Pc [.ref (ad 0)] (gp D ks (mw ad kk ks.1 V L) (mty kk) sz)) (q_s_sumA D ks ad kk V L  bq gn gT gs gl gd (va_A (mw ad kk ks.1 V L) sz)) 0 0 (va_A (mw ad kk ks.1 V L) sz)
abbrev q_s_productA (D : va_G) (ks : KS) (ad : Nat → Nat) (kk : Nat → ClassId) (V : Vf) (L : Lf) (bq : Nat) (gn : Nat) (gT : Tk) (gs : St) (gl : List Int64) (gd : Nat) (A : Nat → Prop) : Array Value → State → Outcome → State → Prop := va_Qv (fun (u : Vf × Lf) => rgd bM u.1 ∧ agr [(0, 7), (0, 8), (0, 48), (0, 50)] [35, 36, 37, 38, 45, 46, 47] V u.1 ∧ agL [35, 36, 37, 38, 45, 46, 47] L u.2 ∧ (Imp ((u.1 0 8).toInt = 0) ((u.1 0 48).toInt - (V 0 48).toInt ≤ 2 * ((u.1 0 7).toInt - (V 0 7).toInt))) ∧ ((u.1 0 48).toInt ≤ 8049 - 6 * (V 0 50).toInt) ∧ ((u.1 0 50).toInt = (V 0 50).toInt) ∧ ((V 0 48).toInt ≤ (u.1 0 48).toInt) ∧ (RdM gT gs (fun k => Iprod gd :: k) (fun k => k) (u.1 0 8).toInt (fun s9 => RelM u.1 u.2 bq gn gT s9 gl ∧ keepS gs 1 s9 ∧ keepE gs s9 ∧ CDm u.1 (10000 * bq) s9)) ∧ (RoV 35 bq V u.1) ∧ (RoV 37 bq V u.1) ∧ (RoL 36 20 bq L u.2) ∧ (RoL 38 20 bq L u.2)) (fun u t => gq D A (mw ad kk ks.1 u.1 u.2) (mty kk) t) A
def K_s_productA (l : Launch) (D : va_G) (ks : KS) (dd : Nat) : Prop := ∀ (sz : Nat) (ad : Nat → Nat) (kk : Nat → ClassId) (V : Vf) (L : Lf) (bq : Nat) (gn : Nat) (gT : Tk) (gs : St) (gl : List Int64) (gd : Nat) (hMV : rgd bM V) (rel : RelM V L bq gn gT gs gl) (c1 : (V 0 48).toInt ≤ 2 * (V 0 7).toInt) (yd : (V 0 50).toInt = (gd : Int)) (c4 : (V 0 50).toInt + (dd : Int) = 8) (em : EM V gs) (cdm : CDm V (10000 * bq) gs) , Met l yX12_product (Cond.code yX12_product cX12_product 2 none :: GW) (rK 11 340 dd) (va_Pc [.ref (ad 0)] (gp D ks (mw ad kk ks.1 V L) (mty kk) sz)) (q_s_productA D ks ad kk V L  bq gn gT gs gl gd (va_A (mw ad kk ks.1 V L) sz)) 0 0 (va_A (mw ad kk ks.1 V L) sz)
abbrev q_s_partA (D : va_G) (ks : KS) (ad : Nat → Nat) (kk : Nat → ClassId) (V : Vf) (L : Lf) (bq : Nat) (gn : Nat) (gT : Tk) (gs : St) (gl : List Int64) (gd : Nat) (A : Nat → Prop) : Array Value → State → Outcome → State → Prop := va_Qv (fun (u : Vf × Lf) => rgd bM u.1 ∧ agr [(0, 7), (0, 8), (0, 48), (0, 50)] [35, 36, 37, 38, 45, 46, 47] V u.1 ∧ agL [35, 36, 37, 38, 45, 46, 47] L u.2 ∧ (Imp ((u.1 0 8).toInt = 0) ((u.1 0 48).toInt - (V 0 48).toInt ≤ 2 * ((u.1 0 7).toInt - (V 0 7).toInt))) ∧ ((u.1 0 48).toInt ≤ 8048 - 6 * (V 0 50).toInt) ∧ ((u.1 0 50).toInt = (V 0 50).toInt) ∧ ((V 0 48).toInt ≤ (u.1 0 48).toInt) ∧ (RdM gT gs (fun k => Ipart gd :: k) (fun k => k) (u.1 0 8).toInt (fun s9 => RelM u.1 u.2 bq gn gT s9 gl ∧ keepS gs 1 s9 ∧ keepE gs s9 ∧ CDm u.1 (10000 * bq) s9)) ∧ (RoV 35 bq V u.1) ∧ (RoV 37 bq V u.1) ∧ (RoL 36 20 bq L u.2) ∧ (RoL 38 20 bq L u.2)) (fun u t => gq D A (mw ad kk ks.1 u.1 u.2) (mty kk) t) A
def K_s_partA (l : Launch) (D : va_G) (ks : KS) (dd : Nat) : Prop := ∀ (sz : Nat) (ad : Nat → Nat) (kk : Nat → ClassId) (V : Vf) (L : Lf) (bq : Nat) (gn : Nat) (gT : Tk) (gs : St) (gl : List Int64) (gd : Nat) (hMV : rgd bM V) (rel : RelM V L bq gn gT gs gl) (c1 : (V 0 48).toInt ≤ 2 * (V 0 7).toInt) (yd : (V 0 50).toInt = (gd : Int)) (c4 : (V 0 50).toInt + (dd : Int) = 8) (em : EM V gs) (cdm : CDm V (10000 * bq) gs) , Met l yX12_part (Cond.code yX12_part cX12_part 2 none :: GW) (rK 10 300 dd) (va_Pc [.ref (ad 0)] (gp D ks (mw ad kk ks.1 V L) (mty kk) sz)) (q_s_partA D ks ad kk V L  bq gn gT gs gl gd (va_A (mw ad kk ks.1 V L) sz)) 0 0 (va_A (mw ad kk ks.1 V L) sz)
abbrev q_s_bracketedA (D : va_G) (ks : KS) (ad : Nat → Nat) (kk : Nat → ClassId) (V : Vf) (L : Lf) (bq : Nat) (gn : Nat) (gT : Tk) (gs : St) (gl : List Int64) (gd : Nat) (A : Nat → Prop) : Array Value → State → Outcome → State → Prop := va_Qv (fun (u : Vf × Lf) => rgd bM u.1 ∧ agr [(0, 7), (0, 8), (0, 48), (0, 50)] [35, 36, 37, 38, 45, 46, 47] V u.1 ∧ agL [35, 36, 37, 38, 45, 46, 47] L u.2 ∧ (Imp ((u.1 0 8).toInt = 0) ((u.1 0 48).toInt - (V 0 48).toInt ≤ 2 * ((u.1 0 7).toInt - (V 0 7).toInt))) ∧ ((u.1 0 48).toInt ≤ 8052 - 6 * (V 0 50).toInt) ∧ ((u.1 0 50).toInt = (V 0 50).toInt) ∧ ((V 0 48).toInt ≤ (u.1 0 48).toInt) ∧ (RdM gT gs (fun k => Itake 40 :: Iexpr gd :: Itake 41 :: k) (fun k => k) (u.1 0 8).toInt (fun s9 => RelM u.1 u.2 bq gn gT s9 gl ∧ keepS gs 1 s9 ∧ keepE gs s9 ∧ CDm u.1 (10000 * bq) s9)) ∧ (RoV 35 bq V u.1) ∧ (RoV 37 bq V u.1) ∧ (RoL 36 20 bq L u.2) ∧ (RoL 38 20 bq L u.2)) (fun u t => gq D A (mw ad kk ks.1 u.1 u.2) (mty kk) t) A
def K_s_bracketedA (l : Launch) (D : va_G) (ks : KS) (dd : Nat) : Prop := ∀ (sz : Nat) (ad : Nat → Nat) (kk : Nat → ClassId) (V : Vf) (L : Lf) (bq : Nat) (gn : Nat) (gT : Tk) (gs : St) (gl : List Int64) (gd : Nat) (hMV : rgd bM V) (rel : RelM V L bq gn gT gs gl) (c1 : (V 0 48).toInt ≤ 2 * (V 0 7).toInt) (yd : (V 0 50).toInt = (gd : Int)) (c4 : (V 0 50).toInt + (dd : Int) = 8) (em : EM V gs) (cdm : CDm V (10000 * bq) gs) , Met l yX12_bracketed (Cond.code yX12_bracketed cX12_bracketed 1 none :: GW) (rK 14 460 dd) (va_Pc [.ref (ad 0)] (gp D ks (mw ad kk ks.1 V L) (mty kk) sz)) (q_s_bracketedA D ks ad kk V L  bq gn gT gs gl gd (va_A (mw ad kk ks.1 V L) sz)) 0 0 (va_A (mw ad kk ks.1 V L) sz)
abbrev q_s_pickA (D : va_G) (ks : KS) (ad : Nat → Nat) (kk : Nat → ClassId) (V : Vf) (L : Lf) (bq : Nat) (gn : Nat) (gT : Tk) (gs : St) (gl : List Int64) (gd : Nat) (A : Nat → Prop) : Array Value → State → Outcome → State → Prop := va_Qv (fun (u : Vf × Lf) => rgd bM u.1 ∧ agr [(0, 7), (0, 8), (0, 48), (0, 50)] [35, 36, 37, 38, 45, 46, 47] V u.1 ∧ agL [35, 36, 37, 38, 45, 46, 47] L u.2 ∧ (Imp ((u.1 0 8).toInt = 0) ((u.1 0 48).toInt - (V 0 48).toInt ≤ 2 * ((u.1 0 7).toInt - (V 0 7).toInt))) ∧ ((u.1 0 48).toInt ≤ 8053 - 6 * (V 0 50).toInt) ∧ ((u.1 0 50).toInt = (V 0 50).toInt) ∧ ((V 0 48).toInt ≤ (u.1 0 48).toInt) ∧ (RdM gT gs (fun k => Itake 40 :: Iexpr gd :: Itake 44 :: Ipk1 gd :: k) (fun k => k) (u.1 0 8).toInt (fun s9 => RelM u.1 u.2 bq gn gT s9 gl ∧ keepS gs 1 s9 ∧ keepE gs s9 ∧ CDm u.1 (10000 * bq) s9)) ∧ (RoV 35 bq V u.1) ∧ (RoV 37 bq V u.1) ∧ (RoL 36 20 bq L u.2) ∧ (RoL 38 20 bq L u.2)) (fun u t => gq D A (mw ad kk ks.1 u.1 u.2) (mty kk) t) A
def K_s_pickA (l : Launch) (D : va_G) (ks : KS) (dd : Nat) : Prop := ∀ (sz : Nat) (ad : Nat → Nat) (kk : Nat → ClassId) (V : Vf) (L : Lf) (bq : Nat) (gn : Nat) (gT : Tk) (gs : St) (gl : List Int64) (gd : Nat) (hMV : rgd bM V) (rel : RelM V L bq gn gT gs gl) (c1 : (V 0 48).toInt ≤ 2 * (V 0 7).toInt) (yd : (V 0 50).toInt = (gd : Int)) (c4 : (V 0 50).toInt + (dd : Int) = 8) (em : EM V gs) (cdm : CDm V (10000 * bq) gs) , Met l yX12_pick (Cond.code yX12_pick cX12_pick 3 none :: GW) (rK 14 460 dd) (va_Pc [.ref (ad 0)] (gp D ks (mw ad kk ks.1 V L) (mty kk) sz)) (q_s_pickA D ks ad kk V L  bq gn gT gs gl gd (va_A (mw ad kk ks.1 V L) sz)) 0 0 (va_A (mw ad kk ks.1 V L) sz)
abbrev q_s_partWithinA (D : va_G) (ks : KS) (ad : Nat → Nat) (kk : Nat → ClassId) (V : Vf) (L : Lf) (bq : Nat) (gn : Nat) (gT : Tk) (gs : St) (gl : List Int64) (gd : Nat) (A : Nat → Prop) : Array Value → State → Outcome → State → Prop := va_Qv (fun (u : Vf × Lf) => rgd bM u.1 ∧ agr [(0, 7), (0, 8), (0, 48), (0, 50)] [35, 36, 37, 38, 45, 46, 47] V u.1 ∧ agL [35, 36, 37, 38, 45, 46, 47] L u.2 ∧ (Imp ((u.1 0 8).toInt = 0) ((u.1 0 48).toInt - (V 0 48).toInt + 1 ≤ 2 * ((u.1 0 7).toInt - (V 0 7).toInt))) ∧ ((u.1 0 48).toInt ≤ 8054 - 6 * (V 0 50).toInt) ∧ ((u.1 0 50).toInt = (V 0 50).toInt) ∧ ((V 0 48).toInt ≤ (u.1 0 48).toInt) ∧ (RdM gT gs (fun k => Ipart gd :: k) (fun k => k) (u.1 0 8).toInt (fun s9 => RelM u.1 u.2 bq gn gT s9 gl ∧ keepS gs 1 s9 ∧ keepE gs s9 ∧ CDm u.1 (10000 * bq) s9)) ∧ (RoV 35 bq V u.1) ∧ (RoV 37 bq V u.1) ∧ (RoL 36 20 bq L u.2) ∧ (RoL 38 20 bq L u.2)) (fun u t => gq D A (mw ad kk ks.1 u.1 u.2) (mty kk) t) A
def K_s_partWithinA (l : Launch) (D : va_G) (ks : KS) (dd : Nat) : Prop := ∀ (sz : Nat) (ad : Nat → Nat) (kk : Nat → ClassId) (V : Vf) (L : Lf) (bq : Nat) (gn : Nat) (gT : Tk) (gs : St) (gl : List Int64) (gd : Nat) (hMV : rgd bM V) (rel : RelM V L bq gn gT gs gl) (c1 : (V 0 48).toInt ≤ 2 * (V 0 7).toInt + 1) (yd : (V 0 50).toInt = (gd : Int) + 1) (g8 : (gd : Int) ≤ 7) (bg : bgP gT gs) (c4 : (V 0 50).toInt + (dd : Int) = 8) (em : EM V gs) (cdm : CDm V (10000 * bq) (emS gs 1 0 0)) , Met l yX12_partWithin (Cond.code yX12_partWithin cX12_partWithin 4 none :: GW) (rK 15 500 dd) (va_Pc [.ref (ad 0)] (gp D ks (mw ad kk ks.1 V L) (mty kk) sz)) (q_s_partWithinA D ks ad kk V L  bq gn gT gs gl gd (va_A (mw ad kk ks.1 V L) sz)) 0 0 (va_A (mw ad kk ks.1 V L) sz)
set_option maxHeartbeats 4000000 in
set_option maxRecDepth 100000 in
theorem s_expressionA {l : Launch} {D : va_G} {ks : KS} {dd : Nat} (hk_s_sumA : K_s_sumA l D ks dd) : K_s_expressionA l D ks dd := by
  intro sz ad kk V L  bq gn gT gs gl gd hMV rel c1 yd c4 em cdm
  refine g_met (q_s_expressionA D ks ad kk V L  bq gn gT gs gl gd) (by decide) (Nat.le_of_ble_eq_true rfl) ?_
  intro p e s m below meth c A ls H locs hx hb hr hml hown hg hlocks hin hnw hgk hP hK hD hS hA hl
  have hown : s.vm.findClass RX12 = some m.cls := hown
  have hl : lv_has ls 3 [(0, .ref (ad 0))] := hl
  have hP : va_P D vwCl (mw ad kk ks.1 V L) H := hP
  have hD : va_D A (mw ad kk ks.1 V L) := hD
  have hK : va_K D vwCl (mty kk) s := hK
  have agV : agr [(0, 7), (0, 8), (0, 48), (0, 50)] [35, 36, 37, 38, 45, 46, 47] V V := agr.rf
  have alL : agL [35, 36, 37, 38, 45, 46, 47] L L := agL.rf
  have r1 : 0 ≤ ((V 0 48)).toInt ∧ ((V 0 48)).toInt ≤ 10000 := hMV 0 48
  have r2 : 0 ≤ ((V 0 50)).toInt ∧ ((V 0 50)).toInt ≤ 9 := hMV 0 50
  have rg0 := RelM.rg rel
  have cl0 := RelM.cl rel
  have cq0 := RelM.cq rel
  refine lv_aload_n hx hb dX12_expression_0 rfl (lv_at hl 0 rfl) ?_
  have hr3 : ∀ k, Rc gT (Crun gs (Iexpr gd :: k)) (Crun gs (Iexpr gd :: k)) := fun k => Rc.rf
  have hr4 : ∀ k, Rc gT (Crun gs (Iexpr gd :: k)) (Crun gs (Isum gd :: Icmp gd :: k)) := fun k => Rc.go1 (hr3 k) (m_expr gd)
  refine gA_void (gA_runV (As := []) (rest := []) (ci := 12) (q0 := 0) hx hb hml hown hg hP hD hK hS hA hnw hgk (hk_s_sumA H.size ad kk V L (bq) (gn) (gT) (gs) (gl) (gd) hMV rel (show (V 0 48).toInt ≤ 2 * (V 0 7).toInt from by (first | exact om_25cd5ecd1f71 c1 | omega)) (show (V 0 50).toInt = ((gd) : Int) from by (first | exact om_08e0c9701055 yd | omega)) (show (V 0 50).toInt + (dd : Int) = 8 from by (first | exact om_a46d3d9b9c91 c4 | omega)) em cdm) w2120 w2122 w107 w172 w2123 rfl rfl hdV_yX12_sum ⟨(by show 10 * dd + 12 + 1 ≤ 10 * dd + 13; (first | exact om_05dd9745e50f | omega)), (by show 8 + (3 + 11) + (300 * dd + 380) ≤ 300 * dd + 420; (first | exact om_3b1b1329b0cd | omega))⟩ rfl hl.1 rfl (Nat.le_of_ble_eq_true rfl) dX12_expression_1 ⟨Nat.le_of_ble_eq_true rfl, Nat.le_of_ble_eq_true rfl⟩) hP hD hK hS hA (fun u6 H locs w7 hP hD hK hS => ?_)
  obtain ⟨V17, L18⟩ := u6
  obtain ⟨hMV17, ajV17, axL18, t8, t9, t10, t11, t12, t13, t14, t15, t16⟩ := w7
  have alL18 : agL [35, 36, 37, 38, 45, 46, 47] L L18 := agL.tr alL axL18 (by decide)
  have hP : va_P D vwCl (mw ad kk ks.1 V17 L18) H := hP
  have hD : va_D A (mw ad kk ks.1 V17 L18) := hD
  have hMV17 : rgd bM V17 := hMV17
  have ajV17 : agr [(0, 7), (0, 8), (0, 48), (0, 50)] [35, 36, 37, 38, 45, 46, 47] V V17 := ajV17
  have agV17 : agr [(0, 7), (0, 8), (0, 48), (0, 50)] [35, 36, 37, 38, 45, 46, 47] V V17 := agV.tr ajV17 (by decide) (by decide)
  have t8 : Imp ((V17 0 8).toInt = 0) ((V17 0 48).toInt - (V 0 48).toInt ≤ 2 * ((V17 0 7).toInt - (V 0 7).toInt)) := t8
  have t9 : (V17 0 48).toInt ≤ 8050 - 6 * (V 0 50).toInt := t9
  have t10 : (V17 0 50).toInt = (V 0 50).toInt := t10
  have t11 : (V 0 48).toInt ≤ (V17 0 48).toInt := t11
  have t12 : RdM (gT) (gs) (fun k => Isum (gd) :: k) (fun k => k) (V17 0 8).toInt (fun s9 => RelM V17 L18 (bq) (gn) (gT) s9 (gl) ∧ keepS (gs) 1 s9 ∧ keepE (gs) s9 ∧ CDm V17 (10000 * (bq)) s9) := t12
  have t13 : RoV 35 (bq) V V17 := t13
  have t14 : RoV 37 (bq) V V17 := t14
  have t15 : RoL 36 20 (bq) L L18 := t15
  have t16 : RoL 38 20 (bq) L L18 := t16
  have r19 : 0 ≤ ((V17 0 48)).toInt ∧ ((V17 0 48)).toInt ≤ 10000 := hMV17 0 48
  have r20 : 0 ≤ ((V17 0 8)).toInt ∧ ((V17 0 8)).toInt ≤ 70000 := hMV17 0 8
  have r21 : 0 ≤ ((V17 0 50)).toInt ∧ ((V17 0 50)).toInt ≤ 9 := hMV17 0 50
  rcases t12 with ⟨q22, sx23, h24, rl25, kp26, ke27, cd28⟩ | ⟨q22, h24⟩
  · skip
    have hr29 : ∀ k, Rc gT (Crun gs (Iexpr gd :: k)) (Crun sx23 (Icmp gd :: k)) := fun k => (hr4 k).tr (h24 (Icmp gd :: k))
    have fz30 := RelM.rg rl25
    have ps31 := (kp26).1
    refine lv_aload_n hx hb dX12_expression_4 rfl (lv_at hl 0 rfl) ?_
    refine lv_bipush (v := 60) hx hb dX12_expression_5 (by decide) ?_
    have r32 : Int32.toInt 60 = 60 := by decide
    refine gA_int (gA_runV (As := [.int 60]) (rest := []) (ci := 12) (q0 := 0) hx hb hml hown hg hP hD hK hS hA hnw hgk (s_isSignA l D ks H.size ad kk V17 L18 60 (bq) (gn) (gT) (sx23) (gl) hMV17 rl25 (sg_yes (j := 60) (by decide) (by decide) (by decide))) w2071 w2073 w95 w172 w2074 rfl rfl hdV_yX12_isSign ⟨(by show 0 + 1 ≤ 10 * dd + 13; (first | exact om_9951cd5fb3b5 | omega)), (by show 8 + (2 + 11) + (0) ≤ 300 * dd + 420; (first | exact om_a5f6827dfb36 | omega))⟩ rfl hl.1 rfl (Nat.le_of_ble_eq_true rfl) dX12_expression_7 ⟨Nat.le_of_ble_eq_true rfl, Nat.le_of_ble_eq_true rfl⟩) hP hD hK hS hA (fun z33 u34 H locs w35 hP hD hK hS => ?_)
    obtain ⟨rgz33, t36⟩ := w35
    have rgz33 : 0 ≤ z33.toInt ∧ z33.toInt ≤ 1 := rgz33
    have t36 : (z33.toInt = 1 ∧ (gT).1 ((sx23).1 0) = (Int32.toInt 60)) ∨ (z33.toInt = 0 ∧ (gT).1 ((sx23).1 0) ≠ (Int32.toInt 60)) := t36
    rcases t36 with ⟨q37, h38⟩ | ⟨q37, h38⟩
    · skip
      have kd39 : gT.1 (sx23.1 0) = 60 := h38.trans (by decide)
      refine lv_istore_n (lv' := [(1, .int z33), (0, .ref (ad 0))]) hx hb dX12_expression_10 rfl hl (by decide) rfl (fun ls hl => ?_)
      refine lv_iload_n hx hb dX12_expression_11 rfl (lv_at hl 0 rfl) ?_
      refine lv_if_ne (tgt := 24) hx hb dX12_expression_12 (by decide) (fun c40 => ?_) (fun c40 => ?_)
      · skip
        have f41 : z33.toInt ≠ 0 := b_neq rfl (by decide) c40
        refine lv_aload_n hx hb dX12_expression_24 rfl (lv_at hl 1 rfl) ?_
        refine lv_dup hx hb dX12_expression_25 rfl ?_
        refine va_get (D := D) (ci := 12) (v := .int (V17 0 7)) (C := RX12) (T := TX12) (N := 100) hx hb hg inX12 hown hK hP 0 rfl rfl 7 (by decide) (hg _ w1713) (fun _ h9 => h9) rfl dX12_expression_26 ?_
        refine lv_iconst (v := 1) hx hb dX12_expression_29 (by decide) ?_
        refine lv_iadd hx hb dX12_expression_30 ?_
        refine lv_topi (fun z42 ez42 => ?_)
        have hz42 : z42.toInt = ((V17 0 7)).toInt + 1 := i_add ez42 rfl (by decide) (by omega)
        refine va_put (D := D) (ci := 12) (v := .int z42) (ty := tyX12 7) (C := RX12) (T := TX12) (N := 100) hx hb hg inX12 tyX12 tyX12_ok nmX12 hown hK hP hD hS 0 rfl rfl 7 (by decide) (hg _ w1713) (fun _ h9 => h9) rfl (tyX12_ok 7 (by decide)) rfl rfl (Nat.le_of_ble_eq_true rfl) dX12_expression_31 (fun H locs hP hD hS => ?_)
        obtain ⟨V43, hV43⟩ : ∃ z, z = up2 V17 0 7 z42 := ⟨_, rfl⟩
        have hP : va_P D vwCl (mw ad kk ks.1 V43 L18) H := by rw [hV43]; exact hP
        have hD : va_D A (mw ad kk ks.1 V43 L18) := by rw [hV43]; exact hD
        have hMV43 : rgd bM V43 := hMV17.put hV43 (i_full _)
        have agV43 : agr [(0, 7), (0, 8), (0, 48), (0, 50)] [35, 36, 37, 38, 45, 46, 47] V V43 := agV17.up hV43 rfl
        have hr44 : ∀ k, Rc gT (Crun gs (Iexpr gd :: k)) (Crun (nx sx23 1) (Isum gd :: Iem 8 :: k)) := fun k => Rc.go1 (hr29 k) (cmp_60 gd kd39)
        have rl45 : RelM V43 L18 bq gn gT (nx sx23 1) gl := RelM.n1 rl25 hV43 (by (first | exact om_55c67efb91e5 hz42 | omega)) (by rw [kd39]; decide)
        have ps46 : (nx sx23 1).1 0 = sx23.1 0 + 1 := rfl
        have fz47 := RelM.rg rl45
        have pq48 : (V43 0 8).toInt = ((V17 0 8)).toInt := congrArg Int32.toInt (up2_k hV43 (by decide))
        have pq49 : (V43 0 7).toInt = z42.toInt := congrArg Int32.toInt (up2_s hV43)
        refine lv_aload_n hx hb dX12_expression_34 rfl (lv_at hl 1 rfl) ?_
        have pq50 : (V43 0 48).toInt = ((V17 0 48)).toInt := congrArg Int32.toInt (up2_k hV43 (by decide))
        have pq51 : (V43 0 50).toInt = ((V17 0 50)).toInt := congrArg Int32.toInt (up2_k hV43 (by decide))
        have cd52 : CDm V43 (10000 * bq) sx23 := CDm.ag cd28 (show agr [(0, 7)] [] V17 V43 from (agr.up agr.rf hV43 rfl)) ⟨rfl, rfl, fun _ => ⟨rfl, rfl, rfl⟩⟩
        have cd53 : CDm V43 (10000 * bq) (nx sx23 1) := CDm.mv cd52 (show ∀ j9, j9 = 5 ∨ 2000 ≤ j9 → (nx sx23 1).2.1 j9 = sx23.2.1 j9 from fun j9 h9 => (show ∀ j9, 5 ≤ j9 → (nx sx23 1).2.1 j9 = sx23.2.1 j9 from fun _ _ => rfl) j9 (by omega))
        refine gA_void (gA_runV (As := []) (rest := []) (ci := 12) (q0 := 0) hx hb hml hown hg hP hD hK hS hA hnw hgk (hk_s_sumA H.size ad kk V43 L18 (bq) (gn) (gT) ((nx sx23 1)) (gl) (gd) hMV43 rl45 (show (V43 0 48).toInt ≤ 2 * (V43 0 7).toInt from by first | exact om_a28408d17a52 c1 hz42 pq49 pq50 ((Imp.go t8 ((pq48.symm).trans (fz47.2.2.1)))) | first | omega | ((try (have i_t8 := Imp.go t8 (by omega))); omega)) (show (V43 0 50).toInt = ((gd) : Int) from by first | exact om_047d18a7ea93 yd t10 pq51 | first | omega | ((try (have i_t8 := Imp.go t8 (by omega))); omega)) (show (V43 0 50).toInt + (dd : Int) = 8 from by first | exact om_cf161be9456d c4 t10 pq51 | first | omega | ((try (have i_t8 := Imp.go t8 (by omega))); omega)) (EM.mv em ((up2_k hV43 (by decide)).trans (ajV17 0 51 rfl)) ((up2_k hV43 (by decide)).trans (ajV17 0 52 rfl)) (by rw [(up2_fo hV43 (by decide) : V43 27 = V17 27), (funext (fun q => ajV17 27 q rfl) : V17 27 = V 27)] : V43 27 = V 27) ((keepS.tr (keepS.tr (keepS.rf : keepS gs 0 gs) kp26) (keepS.n1 1))).2.1) cd53) w2120 w2122 w107 w172 w2123 rfl rfl hdV_yX12_sum ⟨(by show 10 * dd + 12 + 1 ≤ 10 * dd + 13; (first | exact om_05dd9745e50f | omega)), (by show 8 + (3 + 11) + (300 * dd + 380) ≤ 300 * dd + 420; (first | exact om_3b1b1329b0cd | omega))⟩ rfl hl.1 rfl (Nat.le_of_ble_eq_true rfl) dX12_expression_35 ⟨Nat.le_of_ble_eq_true rfl, Nat.le_of_ble_eq_true rfl⟩) hP hD hK hS hA (fun u55 H locs w56 hP hD hK hS => ?_)
        obtain ⟨V66, L67⟩ := u55
        obtain ⟨hMV66, ajV66, axL67, t57, t58, t59, t60, t61, t62, t63, t64, t65⟩ := w56
        have alL67 : agL [35, 36, 37, 38, 45, 46, 47] L L67 := agL.tr alL18 axL67 (by decide)
        have hP : va_P D vwCl (mw ad kk ks.1 V66 L67) H := hP
        have hD : va_D A (mw ad kk ks.1 V66 L67) := hD
        have hMV66 : rgd bM V66 := hMV66
        have ajV66 : agr [(0, 7), (0, 8), (0, 48), (0, 50)] [35, 36, 37, 38, 45, 46, 47] V43 V66 := ajV66
        have agV66 : agr [(0, 7), (0, 8), (0, 48), (0, 50)] [35, 36, 37, 38, 45, 46, 47] V V66 := agV43.tr ajV66 (by decide) (by decide)
        have t57 : Imp ((V66 0 8).toInt = 0) ((V66 0 48).toInt - (V43 0 48).toInt ≤ 2 * ((V66 0 7).toInt - (V43 0 7).toInt)) := t57
        have t58 : (V66 0 48).toInt ≤ 8050 - 6 * (V43 0 50).toInt := t58
        have t59 : (V66 0 50).toInt = (V43 0 50).toInt := t59
        have t60 : (V43 0 48).toInt ≤ (V66 0 48).toInt := t60
        have t61 : RdM (gT) ((nx sx23 1)) (fun k => Isum (gd) :: k) (fun k => k) (V66 0 8).toInt (fun s9 => RelM V66 L67 (bq) (gn) (gT) s9 (gl) ∧ keepS ((nx sx23 1)) 1 s9 ∧ keepE ((nx sx23 1)) s9 ∧ CDm V66 (10000 * (bq)) s9) := t61
        have t62 : RoV 35 (bq) V43 V66 := t62
        have t63 : RoV 37 (bq) V43 V66 := t63
        have t64 : RoL 36 20 (bq) L18 L67 := t64
        have t65 : RoL 38 20 (bq) L18 L67 := t65
        have r68 : 0 ≤ ((V66 0 48)).toInt ∧ ((V66 0 48)).toInt ≤ 10000 := hMV66 0 48
        have r69 : 0 ≤ ((V66 0 8)).toInt ∧ ((V66 0 8)).toInt ≤ 70000 := hMV66 0 8
        have r70 : 0 ≤ ((V66 0 50)).toInt ∧ ((V66 0 50)).toInt ≤ 9 := hMV66 0 50
        rcases t61 with ⟨q71, sx72, h73, rl74, kp75, ke76, cd77⟩ | ⟨q71, h73⟩
        · skip
          have hr78 : ∀ k, Rc gT (Crun gs (Iexpr gd :: k)) (Crun sx72 (Iem 8 :: k)) := fun k => (hr44 k).tr (h73 (Iem 8 :: k))
          have fz79 := RelM.rg rl74
          have ps80 := (kp75).1
          refine lv_aload_n hx hb dX12_expression_38 rfl (lv_at hl 1 rfl) ?_
          refine lv_iload_n hx hb dX12_expression_39 rfl (lv_at hl 0 rfl) ?_
          refine lv_if_eq (tgt := 48) hx hb dX12_expression_40 (by decide) (fun c81 => ?_) (fun c81 => ?_)
          · skip
            have f82 : z33.toInt = 0 := b_eq rfl (by decide) c81
            exfalso; first | exact om_0abcda13baee rgz33.1 f41 f82 | first | omega | ((try (have i_t57 := Imp.go t57 (by omega))); (try (have i_t8 := Imp.go t8 (by omega))); (try (have i_t8 := Imp.go t8 (by omega))); (try (have i_t57 := Imp.go t57 (by omega))); omega)
          · skip
            have f83 : z33.toInt ≠ 0 := b_neq rfl (by decide) c81
            refine lv_bipush (v := 8) hx hb dX12_expression_43 (by decide) ?_
            refine lv_goto (tgt := 50) hx hb dX12_expression_45 (by decide) ?_
            refine lv_iconst (v := 0) hx hb dX12_expression_50 (by decide) ?_
            refine lv_iconst (v := 0) hx hb dX12_expression_51 (by decide) ?_
            have r84 : Int32.toInt 8 = 8 := by decide
            have r85 : Int32.toInt 0 = 0 := by decide
            refine gA_int (gA_runV (As := [.int 8, .int 0, .int 0]) (rest := []) (ci := 12) (q0 := 0) hx hb hml hown hg hP hD hK hS hA hnw hgk (s_emit3 l D ks H.size ad kk V66 L67 8 0 0 hMV66 (show (V66 0 48).toInt ≤ 9999 from by first | exact om_50942c6e822d r2.1 t10 pq51 t58 | first | omega | ((try (have i_t57 := Imp.go t57 (by omega))); (try (have i_t8 := Imp.go t8 (by omega))); (try (have i_t8 := Imp.go t8 (by omega))); (try (have i_t57 := Imp.go t57 (by omega))); omega))) w2136 w2138 w111 w172 w2139 rfl rfl hdV_yX12_emit ⟨(by show 0 + 1 ≤ 10 * dd + 13; (first | exact om_9951cd5fb3b5 | omega)), (by show 8 + (4 + 11) + (0) ≤ 300 * dd + 420; (first | exact om_7e29444b50cd | omega))⟩ rfl hl.1 rfl (Nat.le_of_ble_eq_true rfl) dX12_expression_52 ⟨Nat.le_of_ble_eq_true rfl, Nat.le_of_ble_eq_true rfl⟩) hP hD hK hS hA (fun z86 u87 H locs w88 hP hD hK hS => ?_)
            obtain ⟨V92, L93⟩ := u87
            obtain ⟨hMV92, ajV92, axL93, rgz86, t89, t90, t91⟩ := w88
            have axL93 : L67 = L93 := Eq.symm axL93
            subst axL93
            have hP : va_P D vwCl (mw ad kk ks.1 V92 L67) H := hP
            have hD : va_D A (mw ad kk ks.1 V92 L67) := hD
            have hMV92 : rgd bM V92 := hMV92
            have ajV92 : agr [(0, 48)] [45, 46, 47] V66 V92 := ajV92
            have agV92 : agr [(0, 7), (0, 8), (0, 48), (0, 50)] [35, 36, 37, 38, 45, 46, 47] V V92 := agV66.tr ajV92 (by decide) (by decide)
            have rgz86 : 0 ≤ z86.toInt ∧ z86.toInt ≤ 20000 := rgz86
            have t89 : (V92 0 48).toInt = (V66 0 48).toInt + 1 := t89
            have t90 : z86.toInt = (V66 0 49).toInt + (V66 0 48).toInt := t90
            have t91 : emitted V66 V92 (pA V66) 8 0 0 := t91
            have r94 : 0 ≤ ((V92 0 48)).toInt ∧ ((V92 0 48)).toInt ≤ 10000 := hMV92 0 48
            have pq95 : (V66 0 49).toInt = ((V 0 49)).toInt := congrArg Int32.toInt ((ajV66 0 49 rfl).trans ((up2_k hV43 (by decide)).trans (ajV17 0 49 rfl)))
            have r96 : 0 ≤ ((V 0 49)).toInt ∧ ((V 0 49)).toInt ≤ 10000 := hMV 0 49
            have hr97 : ∀ k, Rc gT (Crun gs (Iexpr gd :: k)) (Crun (emS sx72 8 0 0) (k)) := fun k => Rc.go1 (hr78 k) (m_em 8)
            have rl98 : RelM V92 L67 bq gn gT sx72 gl := RelM.ag rl74 (show agr [(0, 48)] [45, 46, 47] V66 V92 from (agr.tr agr.rf ajV92 (by decide) (by decide))) (by decide) (show agL [] L67 L67 from agL.rf) (by decide)
            have rl99 : RelM V92 L67 bq gn gT (emS sx72 8 0 0) gl := RelM.em rl98
            have ps100 : (emS sx72 8 0 0).1 0 = sx72.1 0 := rfl
            have fz101 := RelM.rg rl99
            have pq102 : (V92 0 8).toInt = ((V66 0 8)).toInt := congrArg Int32.toInt (ajV92 0 8 rfl)
            have pq103 : (V92 0 7).toInt = ((V66 0 7)).toInt := congrArg Int32.toInt (ajV92 0 7 rfl)
            have cd104 : CDm V92 (10000 * bq) (emS sx72 8 0 0) := CDm.e0 cd77 t89 (ajV92 0 49 rfl) t91 (by decide) (by decide) (by decide) (by decide)
            refine lv_istore_n (lv' := [(2, .int z86), (1, .int z33), (0, .ref (ad 0))]) hx hb dX12_expression_55 rfl hl (by decide) rfl (fun ls hl => ?_)
            have pq105 : (V92 0 50).toInt = ((V66 0 50)).toInt := congrArg Int32.toInt (ajV92 0 50 rfl)
            have rw106 : RoV 35 bq V V92 := (fun k hk => ((ajV92 35 k rfl).trans ((t62 k hk).trans ((up2_o hV43 (by decide)).trans ((t13 k hk).trans rfl)))))
            have rw107 : RoV 37 bq V V92 := (fun k hk => ((ajV92 37 k rfl).trans ((t63 k hk).trans ((up2_o hV43 (by decide)).trans ((t14 k hk).trans rfl)))))
            have rw108 : RoL 36 20 bq L L67 := (fun k hk => ((t64 k hk).trans ((t15 k hk).trans rfl)))
            have rw109 : RoL 38 20 bq L L67 := (fun k hk => ((t65 k hk).trans ((t16 k hk).trans rfl)))
            exact W.vret hx hb hr (fun t ht hW => ⟨⟨(V92, L67), rfl, ⟨hMV92, agV92, alL67, (Imp.mk (fun hp => have hp : (V92 0 8).toInt = 0 := hp; (show (V92 0 48).toInt - (V 0 48).toInt ≤ 2 * ((V92 0 7).toInt - (V 0 7).toInt) from by first | exact om_24ed42d66743 hz42 pq49 pq50 t89 pq103 ((Imp.go t8 ((pq48.symm).trans (fz47.2.2.1)))) ((Imp.go t57 ((pq102.symm).trans (hp)))) | first | omega | ((try (have i_t57 := Imp.go t57 (by omega))); (try (have i_t8 := Imp.go t8 (by omega))); (try (have i_t8 := Imp.go t8 (by omega))); (try (have i_t57 := Imp.go t57 (by omega))); omega)))), (show (V92 0 48).toInt ≤ 8051 - 6 * (V 0 50).toInt from by first | exact om_7a4146f78230 t10 pq51 t58 t89 | first | omega | ((try (have i_t57 := Imp.go t57 (by omega))); (try (have i_t8 := Imp.go t8 (by omega))); (try (have i_t8 := Imp.go t8 (by omega))); (try (have i_t57 := Imp.go t57 (by omega))); omega)), (show (V92 0 50).toInt = (V 0 50).toInt from by first | exact om_354a89fdc05f t10 pq51 t59 pq105 | first | omega | ((try (have i_t57 := Imp.go t57 (by omega))); (try (have i_t8 := Imp.go t8 (by omega))); (try (have i_t8 := Imp.go t8 (by omega))); (try (have i_t57 := Imp.go t57 (by omega))); omega)), (show (V 0 48).toInt ≤ (V92 0 48).toInt from by first | exact om_f68890bd9a1b t11 pq50 t60 t89 | first | omega | ((try (have i_t57 := Imp.go t57 (by omega))); (try (have i_t8 := Imp.go t8 (by omega))); (try (have i_t8 := Imp.go t8 (by omega))); (try (have i_t57 := Imp.go t57 (by omega))); omega)), (Or.inl ⟨W0 rl99, (emS sx72 8 0 0), hr97, rl99, keepS.le (keepS.tr (keepS.tr (keepS.tr (keepS.tr (keepS.rf : keepS gs 0 gs) kp26) (keepS.n1 1)) kp75) (show keepS sx72 0 (emS sx72 8 0 0) from keepS.em)) (by decide), (keepE.tr (keepE.tr (keepE.tr (keepE.tr (keepE.rf : keepE gs gs) ke27) (show keepE sx23 (nx sx23 1) from keepE.eq (show ∀ j9, 5 ≤ j9 → (nx sx23 1).2.1 j9 = sx23.2.1 j9 from fun _ _ => rfl))) ke76) (show keepE sx72 (emS sx72 8 0 0) from keepE.em)), cd104⟩), rw106, rw107, rw108, rw109⟩, by rw [ht]; exact hP, va_K.moved hW.alike hK, hD⟩, hS.F ht⟩) hS.2.2 dX12_expression_56
        · skip
          have hb110 : ∀ k, Rc gT (Crun gs (Iexpr gd :: k)) (Cbad (V66 0 8).toInt) := fun k => (hr44 k).tr (h73 (Iem 8 :: k))
          refine lv_aload_n hx hb dX12_expression_38 rfl (lv_at hl 1 rfl) ?_
          refine lv_iload_n hx hb dX12_expression_39 rfl (lv_at hl 0 rfl) ?_
          refine lv_if_eq (tgt := 48) hx hb dX12_expression_40 (by decide) (fun c111 => ?_) (fun c111 => ?_)
          · skip
            have f112 : z33.toInt = 0 := b_eq rfl (by decide) c111
            exfalso; first | exact om_0abcda13baee rgz33.1 f41 f112 | first | omega | ((try (have i_t57 := Imp.go t57 (by omega))); (try (have i_t8 := Imp.go t8 (by omega))); (try (have i_t8 := Imp.go t8 (by omega))); (try (have i_t57 := Imp.go t57 (by omega))); omega)
          · skip
            have f113 : z33.toInt ≠ 0 := b_neq rfl (by decide) c111
            refine lv_bipush (v := 8) hx hb dX12_expression_43 (by decide) ?_
            refine lv_goto (tgt := 50) hx hb dX12_expression_45 (by decide) ?_
            refine lv_iconst (v := 0) hx hb dX12_expression_50 (by decide) ?_
            refine lv_iconst (v := 0) hx hb dX12_expression_51 (by decide) ?_
            have r114 : Int32.toInt 8 = 8 := by decide
            have r115 : Int32.toInt 0 = 0 := by decide
            refine gA_int (gA_runV (As := [.int 8, .int 0, .int 0]) (rest := []) (ci := 12) (q0 := 0) hx hb hml hown hg hP hD hK hS hA hnw hgk (s_emit3 l D ks H.size ad kk V66 L67 8 0 0 hMV66 (show (V66 0 48).toInt ≤ 9999 from by first | exact om_50942c6e822d r2.1 t10 pq51 t58 | first | omega | ((try (have i_t57 := Imp.go t57 (by omega))); (try (have i_t8 := Imp.go t8 (by omega))); (try (have i_t8 := Imp.go t8 (by omega))); (try (have i_t57 := Imp.go t57 (by omega))); omega))) w2136 w2138 w111 w172 w2139 rfl rfl hdV_yX12_emit ⟨(by show 0 + 1 ≤ 10 * dd + 13; (first | exact om_9951cd5fb3b5 | omega)), (by show 8 + (4 + 11) + (0) ≤ 300 * dd + 420; (first | exact om_7e29444b50cd | omega))⟩ rfl hl.1 rfl (Nat.le_of_ble_eq_true rfl) dX12_expression_52 ⟨Nat.le_of_ble_eq_true rfl, Nat.le_of_ble_eq_true rfl⟩) hP hD hK hS hA (fun z116 u117 H locs w118 hP hD hK hS => ?_)
            obtain ⟨V122, L123⟩ := u117
            obtain ⟨hMV122, ajV122, axL123, rgz116, t119, t120, t121⟩ := w118
            have axL123 : L67 = L123 := Eq.symm axL123
            subst axL123
            have hP : va_P D vwCl (mw ad kk ks.1 V122 L67) H := hP
            have hD : va_D A (mw ad kk ks.1 V122 L67) := hD
            have hMV122 : rgd bM V122 := hMV122
            have ajV122 : agr [(0, 48)] [45, 46, 47] V66 V122 := ajV122
            have agV122 : agr [(0, 7), (0, 8), (0, 48), (0, 50)] [35, 36, 37, 38, 45, 46, 47] V V122 := agV66.tr ajV122 (by decide) (by decide)
            have rgz116 : 0 ≤ z116.toInt ∧ z116.toInt ≤ 20000 := rgz116
            have t119 : (V122 0 48).toInt = (V66 0 48).toInt + 1 := t119
            have t120 : z116.toInt = (V66 0 49).toInt + (V66 0 48).toInt := t120
            have t121 : emitted V66 V122 (pA V66) 8 0 0 := t121
            have r124 : 0 ≤ ((V122 0 48)).toInt ∧ ((V122 0 48)).toInt ≤ 10000 := hMV122 0 48
            have pq125 : (V66 0 49).toInt = ((V 0 49)).toInt := congrArg Int32.toInt ((ajV66 0 49 rfl).trans ((up2_k hV43 (by decide)).trans (ajV17 0 49 rfl)))
            have r126 : 0 ≤ ((V 0 49)).toInt ∧ ((V 0 49)).toInt ≤ 10000 := hMV 0 49
            refine lv_istore_n (lv' := [(2, .int z116), (1, .int z33), (0, .ref (ad 0))]) hx hb dX12_expression_55 rfl hl (by decide) rfl (fun ls hl => ?_)
            have pq127 : (V122 0 7).toInt = ((V66 0 7)).toInt := congrArg Int32.toInt (ajV122 0 7 rfl)
            have pq128 : (V122 0 8).toInt = ((V66 0 8)).toInt := congrArg Int32.toInt (ajV122 0 8 rfl)
            have pq129 : (V122 0 50).toInt = ((V66 0 50)).toInt := congrArg Int32.toInt (ajV122 0 50 rfl)
            have rw130 : RoV 35 bq V V122 := (fun k hk => ((ajV122 35 k rfl).trans ((t62 k hk).trans ((up2_o hV43 (by decide)).trans ((t13 k hk).trans rfl)))))
            have rw131 : RoV 37 bq V V122 := (fun k hk => ((ajV122 37 k rfl).trans ((t63 k hk).trans ((up2_o hV43 (by decide)).trans ((t14 k hk).trans rfl)))))
            have rw132 : RoL 36 20 bq L L67 := (fun k hk => ((t64 k hk).trans ((t15 k hk).trans rfl)))
            have rw133 : RoL 38 20 bq L L67 := (fun k hk => ((t65 k hk).trans ((t16 k hk).trans rfl)))
            exact W.vret hx hb hr (fun t ht hW => ⟨⟨(V122, L67), rfl, ⟨hMV122, agV122, alL67, (Imp.mk (fun hp => have hp : (V122 0 8).toInt = 0 := hp; (show (V122 0 48).toInt - (V 0 48).toInt ≤ 2 * ((V122 0 7).toInt - (V 0 7).toInt) from by first | exact om_24ed42d66743 hz42 pq49 pq50 t119 pq127 ((Imp.go t8 ((pq48.symm).trans (fz47.2.2.1)))) ((Imp.go t57 ((pq128.symm).trans (hp)))) | first | omega | ((try (have i_t57 := Imp.go t57 (by omega))); (try (have i_t8 := Imp.go t8 (by omega))); (try (have i_t8 := Imp.go t8 (by omega))); (try (have i_t57 := Imp.go t57 (by omega))); omega)))), (show (V122 0 48).toInt ≤ 8051 - 6 * (V 0 50).toInt from by first | exact om_7a4146f78230 t10 pq51 t58 t119 | first | omega | ((try (have i_t57 := Imp.go t57 (by omega))); (try (have i_t8 := Imp.go t8 (by omega))); (try (have i_t8 := Imp.go t8 (by omega))); (try (have i_t57 := Imp.go t57 (by omega))); omega)), (show (V122 0 50).toInt = (V 0 50).toInt from by first | exact om_354a89fdc05f t10 pq51 t59 pq129 | first | omega | ((try (have i_t57 := Imp.go t57 (by omega))); (try (have i_t8 := Imp.go t8 (by omega))); (try (have i_t8 := Imp.go t8 (by omega))); (try (have i_t57 := Imp.go t57 (by omega))); omega)), (show (V 0 48).toInt ≤ (V122 0 48).toInt from by first | exact om_f68890bd9a1b t11 pq50 t60 t119 | first | omega | ((try (have i_t57 := Imp.go t57 (by omega))); (try (have i_t8 := Imp.go t8 (by omega))); (try (have i_t8 := Imp.go t8 (by omega))); (try (have i_t57 := Imp.go t57 (by omega))); omega)), (Or.inr ⟨(show 1 ≤ (V122 0 8).toInt from by omega), (fun k => by rw [show (V122 0 8).toInt = (V66 0 8).toInt from by omega]; exact hb110 k)⟩), rw130, rw131, rw132, rw133⟩, by rw [ht]; exact hP, va_K.moved hW.alike hK, hD⟩, hS.F ht⟩) hS.2.2 dX12_expression_56
      · skip
        have f134 : z33.toInt = 0 := b_eq rfl (by decide) c40
        exfalso; first | exact om_495ee03a60ae q37 f134 | first | omega | ((try (have i_t8 := Imp.go t8 (by omega))); omega)
    · skip
      have kd135 : gT.1 (sx23.1 0) ≠ 60 := fun h9 => h38 (h9.trans (by decide))
      refine lv_istore_n (lv' := [(1, .int z33), (0, .ref (ad 0))]) hx hb dX12_expression_10 rfl hl (by decide) rfl (fun ls hl => ?_)
      refine lv_iload_n hx hb dX12_expression_11 rfl (lv_at hl 0 rfl) ?_
      refine lv_if_ne (tgt := 24) hx hb dX12_expression_12 (by decide) (fun c136 => ?_) (fun c136 => ?_)
      · skip
        have f137 : z33.toInt ≠ 0 := b_neq rfl (by decide) c136
        exfalso; first | exact om_fb320d7600b7 rgz33.1 q37 f137 | first | omega | ((try (have i_t8 := Imp.go t8 (by omega))); omega)
      · skip
        have f138 : z33.toInt = 0 := b_eq rfl (by decide) c136
        refine lv_aload_n hx hb dX12_expression_15 rfl (lv_at hl 1 rfl) ?_
        refine lv_bipush (v := 61) hx hb dX12_expression_16 (by decide) ?_
        have r139 : Int32.toInt 61 = 61 := by decide
        refine gA_int (gA_runV (As := [.int 61]) (rest := []) (ci := 12) (q0 := 0) hx hb hml hown hg hP hD hK hS hA hnw hgk (s_isSignA l D ks H.size ad kk V17 L18 61 (bq) (gn) (gT) (sx23) (gl) hMV17 rl25 (sg_yes (j := 61) (by decide) (by decide) (by decide))) w2071 w2073 w95 w172 w2074 rfl rfl hdV_yX12_isSign ⟨(by show 0 + 1 ≤ 10 * dd + 13; (first | exact om_9951cd5fb3b5 | omega)), (by show 8 + (2 + 11) + (0) ≤ 300 * dd + 420; (first | exact om_a5f6827dfb36 | omega))⟩ rfl hl.1 rfl (Nat.le_of_ble_eq_true rfl) dX12_expression_18 ⟨Nat.le_of_ble_eq_true rfl, Nat.le_of_ble_eq_true rfl⟩) hP hD hK hS hA (fun z140 u141 H locs w142 hP hD hK hS => ?_)
        obtain ⟨rgz140, t143⟩ := w142
        have rgz140 : 0 ≤ z140.toInt ∧ z140.toInt ≤ 1 := rgz140
        have t143 : (z140.toInt = 1 ∧ (gT).1 ((sx23).1 0) = (Int32.toInt 61)) ∨ (z140.toInt = 0 ∧ (gT).1 ((sx23).1 0) ≠ (Int32.toInt 61)) := t143
        rcases t143 with ⟨q144, h145⟩ | ⟨q144, h145⟩
        · skip
          have kd146 : gT.1 (sx23.1 0) = 61 := h145.trans (by decide)
          refine lv_if_eq (tgt := 56) hx hb dX12_expression_21 (by decide) (fun c147 => ?_) (fun c147 => ?_)
          · skip
            have f148 : z140.toInt = 0 := b_eq rfl (by decide) c147
            exfalso; first | exact om_495ee03a60ae q144 f148 | first | omega | ((try (have i_t8 := Imp.go t8 (by omega))); omega)
          · skip
            have f149 : z140.toInt ≠ 0 := b_neq rfl (by decide) c147
            refine lv_aload_n hx hb dX12_expression_24 rfl (lv_at hl 1 rfl) ?_
            refine lv_dup hx hb dX12_expression_25 rfl ?_
            refine va_get (D := D) (ci := 12) (v := .int (V17 0 7)) (C := RX12) (T := TX12) (N := 100) hx hb hg inX12 hown hK hP 0 rfl rfl 7 (by decide) (hg _ w1713) (fun _ h9 => h9) rfl dX12_expression_26 ?_
            refine lv_iconst (v := 1) hx hb dX12_expression_29 (by decide) ?_
            refine lv_iadd hx hb dX12_expression_30 ?_
            refine lv_topi (fun z150 ez150 => ?_)
            have hz150 : z150.toInt = ((V17 0 7)).toInt + 1 := i_add ez150 rfl (by decide) (by omega)
            refine va_put (D := D) (ci := 12) (v := .int z150) (ty := tyX12 7) (C := RX12) (T := TX12) (N := 100) hx hb hg inX12 tyX12 tyX12_ok nmX12 hown hK hP hD hS 0 rfl rfl 7 (by decide) (hg _ w1713) (fun _ h9 => h9) rfl (tyX12_ok 7 (by decide)) rfl rfl (Nat.le_of_ble_eq_true rfl) dX12_expression_31 (fun H locs hP hD hS => ?_)
            obtain ⟨V151, hV151⟩ : ∃ z, z = up2 V17 0 7 z150 := ⟨_, rfl⟩
            have hP : va_P D vwCl (mw ad kk ks.1 V151 L18) H := by rw [hV151]; exact hP
            have hD : va_D A (mw ad kk ks.1 V151 L18) := by rw [hV151]; exact hD
            have hMV151 : rgd bM V151 := hMV17.put hV151 (i_full _)
            have agV151 : agr [(0, 7), (0, 8), (0, 48), (0, 50)] [35, 36, 37, 38, 45, 46, 47] V V151 := agV17.up hV151 rfl
            have hr152 : ∀ k, Rc gT (Crun gs (Iexpr gd :: k)) (Crun (nx sx23 1) (Isum gd :: Iem 9 :: k)) := fun k => Rc.go1 (hr29 k) (cmp_61 gd kd146)
            have rl153 : RelM V151 L18 bq gn gT (nx sx23 1) gl := RelM.n1 rl25 hV151 (by (first | exact om_55c67efb91e5 hz150 | omega)) (by rw [kd146]; decide)
            have ps154 : (nx sx23 1).1 0 = sx23.1 0 + 1 := rfl
            have fz155 := RelM.rg rl153
            have pq156 : (V151 0 8).toInt = ((V17 0 8)).toInt := congrArg Int32.toInt (up2_k hV151 (by decide))
            have pq157 : (V151 0 7).toInt = z150.toInt := congrArg Int32.toInt (up2_s hV151)
            refine lv_aload_n hx hb dX12_expression_34 rfl (lv_at hl 1 rfl) ?_
            have pq158 : (V151 0 48).toInt = ((V17 0 48)).toInt := congrArg Int32.toInt (up2_k hV151 (by decide))
            have pq159 : (V151 0 50).toInt = ((V17 0 50)).toInt := congrArg Int32.toInt (up2_k hV151 (by decide))
            have cd160 : CDm V151 (10000 * bq) sx23 := CDm.ag cd28 (show agr [(0, 7)] [] V17 V151 from (agr.up agr.rf hV151 rfl)) ⟨rfl, rfl, fun _ => ⟨rfl, rfl, rfl⟩⟩
            have cd161 : CDm V151 (10000 * bq) (nx sx23 1) := CDm.mv cd160 (show ∀ j9, j9 = 5 ∨ 2000 ≤ j9 → (nx sx23 1).2.1 j9 = sx23.2.1 j9 from fun j9 h9 => (show ∀ j9, 5 ≤ j9 → (nx sx23 1).2.1 j9 = sx23.2.1 j9 from fun _ _ => rfl) j9 (by omega))
            refine gA_void (gA_runV (As := []) (rest := []) (ci := 12) (q0 := 0) hx hb hml hown hg hP hD hK hS hA hnw hgk (hk_s_sumA H.size ad kk V151 L18 (bq) (gn) (gT) ((nx sx23 1)) (gl) (gd) hMV151 rl153 (show (V151 0 48).toInt ≤ 2 * (V151 0 7).toInt from by first | exact om_a28408d17a52 c1 hz150 pq157 pq158 ((Imp.go t8 ((pq156.symm).trans (fz155.2.2.1)))) | first | omega | ((try (have i_t8 := Imp.go t8 (by omega))); omega)) (show (V151 0 50).toInt = ((gd) : Int) from by first | exact om_047d18a7ea93 yd t10 pq159 | first | omega | ((try (have i_t8 := Imp.go t8 (by omega))); omega)) (show (V151 0 50).toInt + (dd : Int) = 8 from by first | exact om_cf161be9456d c4 t10 pq159 | first | omega | ((try (have i_t8 := Imp.go t8 (by omega))); omega)) (EM.mv em ((up2_k hV151 (by decide)).trans (ajV17 0 51 rfl)) ((up2_k hV151 (by decide)).trans (ajV17 0 52 rfl)) (by rw [(up2_fo hV151 (by decide) : V151 27 = V17 27), (funext (fun q => ajV17 27 q rfl) : V17 27 = V 27)] : V151 27 = V 27) ((keepS.tr (keepS.tr (keepS.rf : keepS gs 0 gs) kp26) (keepS.n1 1))).2.1) cd161) w2120 w2122 w107 w172 w2123 rfl rfl hdV_yX12_sum ⟨(by show 10 * dd + 12 + 1 ≤ 10 * dd + 13; (first | exact om_05dd9745e50f | omega)), (by show 8 + (3 + 11) + (300 * dd + 380) ≤ 300 * dd + 420; (first | exact om_3b1b1329b0cd | omega))⟩ rfl hl.1 rfl (Nat.le_of_ble_eq_true rfl) dX12_expression_35 ⟨Nat.le_of_ble_eq_true rfl, Nat.le_of_ble_eq_true rfl⟩) hP hD hK hS hA (fun u163 H locs w164 hP hD hK hS => ?_)
            obtain ⟨V174, L175⟩ := u163
            obtain ⟨hMV174, ajV174, axL175, t165, t166, t167, t168, t169, t170, t171, t172, t173⟩ := w164
            have alL175 : agL [35, 36, 37, 38, 45, 46, 47] L L175 := agL.tr alL18 axL175 (by decide)
            have hP : va_P D vwCl (mw ad kk ks.1 V174 L175) H := hP
            have hD : va_D A (mw ad kk ks.1 V174 L175) := hD
            have hMV174 : rgd bM V174 := hMV174
            have ajV174 : agr [(0, 7), (0, 8), (0, 48), (0, 50)] [35, 36, 37, 38, 45, 46, 47] V151 V174 := ajV174
            have agV174 : agr [(0, 7), (0, 8), (0, 48), (0, 50)] [35, 36, 37, 38, 45, 46, 47] V V174 := agV151.tr ajV174 (by decide) (by decide)
            have t165 : Imp ((V174 0 8).toInt = 0) ((V174 0 48).toInt - (V151 0 48).toInt ≤ 2 * ((V174 0 7).toInt - (V151 0 7).toInt)) := t165
            have t166 : (V174 0 48).toInt ≤ 8050 - 6 * (V151 0 50).toInt := t166
            have t167 : (V174 0 50).toInt = (V151 0 50).toInt := t167
            have t168 : (V151 0 48).toInt ≤ (V174 0 48).toInt := t168
            have t169 : RdM (gT) ((nx sx23 1)) (fun k => Isum (gd) :: k) (fun k => k) (V174 0 8).toInt (fun s9 => RelM V174 L175 (bq) (gn) (gT) s9 (gl) ∧ keepS ((nx sx23 1)) 1 s9 ∧ keepE ((nx sx23 1)) s9 ∧ CDm V174 (10000 * (bq)) s9) := t169
            have t170 : RoV 35 (bq) V151 V174 := t170
            have t171 : RoV 37 (bq) V151 V174 := t171
            have t172 : RoL 36 20 (bq) L18 L175 := t172
            have t173 : RoL 38 20 (bq) L18 L175 := t173
            have r176 : 0 ≤ ((V174 0 48)).toInt ∧ ((V174 0 48)).toInt ≤ 10000 := hMV174 0 48
            have r177 : 0 ≤ ((V174 0 8)).toInt ∧ ((V174 0 8)).toInt ≤ 70000 := hMV174 0 8
            have r178 : 0 ≤ ((V174 0 50)).toInt ∧ ((V174 0 50)).toInt ≤ 9 := hMV174 0 50
            rcases t169 with ⟨q179, sx180, h181, rl182, kp183, ke184, cd185⟩ | ⟨q179, h181⟩
            · skip
              have hr186 : ∀ k, Rc gT (Crun gs (Iexpr gd :: k)) (Crun sx180 (Iem 9 :: k)) := fun k => (hr152 k).tr (h181 (Iem 9 :: k))
              have fz187 := RelM.rg rl182
              have ps188 := (kp183).1
              refine lv_aload_n hx hb dX12_expression_38 rfl (lv_at hl 1 rfl) ?_
              refine lv_iload_n hx hb dX12_expression_39 rfl (lv_at hl 0 rfl) ?_
              refine lv_if_eq (tgt := 48) hx hb dX12_expression_40 (by decide) (fun c189 => ?_) (fun c189 => ?_)
              · skip
                have f190 : z33.toInt = 0 := b_eq rfl (by decide) c189
                refine lv_bipush (v := 9) hx hb dX12_expression_48 (by decide) ?_
                refine lv_iconst (v := 0) hx hb dX12_expression_50 (by decide) ?_
                refine lv_iconst (v := 0) hx hb dX12_expression_51 (by decide) ?_
                have r191 : Int32.toInt 9 = 9 := by decide
                have r192 : Int32.toInt 0 = 0 := by decide
                refine gA_int (gA_runV (As := [.int 9, .int 0, .int 0]) (rest := []) (ci := 12) (q0 := 0) hx hb hml hown hg hP hD hK hS hA hnw hgk (s_emit3 l D ks H.size ad kk V174 L175 9 0 0 hMV174 (show (V174 0 48).toInt ≤ 9999 from by first | exact om_50942c6e822d r2.1 t10 pq159 t166 | first | omega | ((try (have i_t165 := Imp.go t165 (by omega))); (try (have i_t8 := Imp.go t8 (by omega))); (try (have i_t8 := Imp.go t8 (by omega))); (try (have i_t165 := Imp.go t165 (by omega))); omega))) w2136 w2138 w111 w172 w2139 rfl rfl hdV_yX12_emit ⟨(by show 0 + 1 ≤ 10 * dd + 13; (first | exact om_9951cd5fb3b5 | omega)), (by show 8 + (4 + 11) + (0) ≤ 300 * dd + 420; (first | exact om_7e29444b50cd | omega))⟩ rfl hl.1 rfl (Nat.le_of_ble_eq_true rfl) dX12_expression_52 ⟨Nat.le_of_ble_eq_true rfl, Nat.le_of_ble_eq_true rfl⟩) hP hD hK hS hA (fun z193 u194 H locs w195 hP hD hK hS => ?_)
                obtain ⟨V199, L200⟩ := u194
                obtain ⟨hMV199, ajV199, axL200, rgz193, t196, t197, t198⟩ := w195
                have axL200 : L175 = L200 := Eq.symm axL200
                subst axL200
                have hP : va_P D vwCl (mw ad kk ks.1 V199 L175) H := hP
                have hD : va_D A (mw ad kk ks.1 V199 L175) := hD
                have hMV199 : rgd bM V199 := hMV199
                have ajV199 : agr [(0, 48)] [45, 46, 47] V174 V199 := ajV199
                have agV199 : agr [(0, 7), (0, 8), (0, 48), (0, 50)] [35, 36, 37, 38, 45, 46, 47] V V199 := agV174.tr ajV199 (by decide) (by decide)
                have rgz193 : 0 ≤ z193.toInt ∧ z193.toInt ≤ 20000 := rgz193
                have t196 : (V199 0 48).toInt = (V174 0 48).toInt + 1 := t196
                have t197 : z193.toInt = (V174 0 49).toInt + (V174 0 48).toInt := t197
                have t198 : emitted V174 V199 (pA V174) 9 0 0 := t198
                have r201 : 0 ≤ ((V199 0 48)).toInt ∧ ((V199 0 48)).toInt ≤ 10000 := hMV199 0 48
                have pq202 : (V174 0 49).toInt = ((V 0 49)).toInt := congrArg Int32.toInt ((ajV174 0 49 rfl).trans ((up2_k hV151 (by decide)).trans (ajV17 0 49 rfl)))
                have r203 : 0 ≤ ((V 0 49)).toInt ∧ ((V 0 49)).toInt ≤ 10000 := hMV 0 49
                have hr204 : ∀ k, Rc gT (Crun gs (Iexpr gd :: k)) (Crun (emS sx180 9 0 0) (k)) := fun k => Rc.go1 (hr186 k) (m_em 9)
                have rl205 : RelM V199 L175 bq gn gT sx180 gl := RelM.ag rl182 (show agr [(0, 48)] [45, 46, 47] V174 V199 from (agr.tr agr.rf ajV199 (by decide) (by decide))) (by decide) (show agL [] L175 L175 from agL.rf) (by decide)
                have rl206 : RelM V199 L175 bq gn gT (emS sx180 9 0 0) gl := RelM.em rl205
                have ps207 : (emS sx180 9 0 0).1 0 = sx180.1 0 := rfl
                have fz208 := RelM.rg rl206
                have pq209 : (V199 0 8).toInt = ((V174 0 8)).toInt := congrArg Int32.toInt (ajV199 0 8 rfl)
                have pq210 : (V199 0 7).toInt = ((V174 0 7)).toInt := congrArg Int32.toInt (ajV199 0 7 rfl)
                have cd211 : CDm V199 (10000 * bq) (emS sx180 9 0 0) := CDm.e0 cd185 t196 (ajV199 0 49 rfl) t198 (by decide) (by decide) (by decide) (by decide)
                refine lv_istore_n (lv' := [(2, .int z193), (1, .int z33), (0, .ref (ad 0))]) hx hb dX12_expression_55 rfl hl (by decide) rfl (fun ls hl => ?_)
                have pq212 : (V199 0 50).toInt = ((V174 0 50)).toInt := congrArg Int32.toInt (ajV199 0 50 rfl)
                have rw213 : RoV 35 bq V V199 := (fun k hk => ((ajV199 35 k rfl).trans ((t170 k hk).trans ((up2_o hV151 (by decide)).trans ((t13 k hk).trans rfl)))))
                have rw214 : RoV 37 bq V V199 := (fun k hk => ((ajV199 37 k rfl).trans ((t171 k hk).trans ((up2_o hV151 (by decide)).trans ((t14 k hk).trans rfl)))))
                have rw215 : RoL 36 20 bq L L175 := (fun k hk => ((t172 k hk).trans ((t15 k hk).trans rfl)))
                have rw216 : RoL 38 20 bq L L175 := (fun k hk => ((t173 k hk).trans ((t16 k hk).trans rfl)))
                exact W.vret hx hb hr (fun t ht hW => ⟨⟨(V199, L175), rfl, ⟨hMV199, agV199, alL175, (Imp.mk (fun hp => have hp : (V199 0 8).toInt = 0 := hp; (show (V199 0 48).toInt - (V 0 48).toInt ≤ 2 * ((V199 0 7).toInt - (V 0 7).toInt) from by first | exact om_24ed42d66743 hz150 pq157 pq158 t196 pq210 ((Imp.go t8 ((pq156.symm).trans (fz155.2.2.1)))) ((Imp.go t165 ((pq209.symm).trans (hp)))) | first | omega | ((try (have i_t165 := Imp.go t165 (by omega))); (try (have i_t8 := Imp.go t8 (by omega))); (try (have i_t8 := Imp.go t8 (by omega))); (try (have i_t165 := Imp.go t165 (by omega))); omega)))), (show (V199 0 48).toInt ≤ 8051 - 6 * (V 0 50).toInt from by first | exact om_7a4146f78230 t10 pq159 t166 t196 | first | omega | ((try (have i_t165 := Imp.go t165 (by omega))); (try (have i_t8 := Imp.go t8 (by omega))); (try (have i_t8 := Imp.go t8 (by omega))); (try (have i_t165 := Imp.go t165 (by omega))); omega)), (show (V199 0 50).toInt = (V 0 50).toInt from by first | exact om_354a89fdc05f t10 pq159 t167 pq212 | first | omega | ((try (have i_t165 := Imp.go t165 (by omega))); (try (have i_t8 := Imp.go t8 (by omega))); (try (have i_t8 := Imp.go t8 (by omega))); (try (have i_t165 := Imp.go t165 (by omega))); omega)), (show (V 0 48).toInt ≤ (V199 0 48).toInt from by first | exact om_f68890bd9a1b t11 pq158 t168 t196 | first | omega | ((try (have i_t165 := Imp.go t165 (by omega))); (try (have i_t8 := Imp.go t8 (by omega))); (try (have i_t8 := Imp.go t8 (by omega))); (try (have i_t165 := Imp.go t165 (by omega))); omega)), (Or.inl ⟨W0 rl206, (emS sx180 9 0 0), hr204, rl206, keepS.le (keepS.tr (keepS.tr (keepS.tr (keepS.tr (keepS.rf : keepS gs 0 gs) kp26) (keepS.n1 1)) kp183) (show keepS sx180 0 (emS sx180 9 0 0) from keepS.em)) (by decide), (keepE.tr (keepE.tr (keepE.tr (keepE.tr (keepE.rf : keepE gs gs) ke27) (show keepE sx23 (nx sx23 1) from keepE.eq (show ∀ j9, 5 ≤ j9 → (nx sx23 1).2.1 j9 = sx23.2.1 j9 from fun _ _ => rfl))) ke184) (show keepE sx180 (emS sx180 9 0 0) from keepE.em)), cd211⟩), rw213, rw214, rw215, rw216⟩, by rw [ht]; exact hP, va_K.moved hW.alike hK, hD⟩, hS.F ht⟩) hS.2.2 dX12_expression_56
              · skip
                have f217 : z33.toInt ≠ 0 := b_neq rfl (by decide) c189
                exfalso; first | exact om_fb320d7600b7 rgz33.1 f138 f217 | first | omega | ((try (have i_t165 := Imp.go t165 (by omega))); (try (have i_t8 := Imp.go t8 (by omega))); (try (have i_t8 := Imp.go t8 (by omega))); (try (have i_t165 := Imp.go t165 (by omega))); omega)
            · skip
              have hb218 : ∀ k, Rc gT (Crun gs (Iexpr gd :: k)) (Cbad (V174 0 8).toInt) := fun k => (hr152 k).tr (h181 (Iem 9 :: k))
              refine lv_aload_n hx hb dX12_expression_38 rfl (lv_at hl 1 rfl) ?_
              refine lv_iload_n hx hb dX12_expression_39 rfl (lv_at hl 0 rfl) ?_
              refine lv_if_eq (tgt := 48) hx hb dX12_expression_40 (by decide) (fun c219 => ?_) (fun c219 => ?_)
              · skip
                have f220 : z33.toInt = 0 := b_eq rfl (by decide) c219
                refine lv_bipush (v := 9) hx hb dX12_expression_48 (by decide) ?_
                refine lv_iconst (v := 0) hx hb dX12_expression_50 (by decide) ?_
                refine lv_iconst (v := 0) hx hb dX12_expression_51 (by decide) ?_
                have r221 : Int32.toInt 9 = 9 := by decide
                have r222 : Int32.toInt 0 = 0 := by decide
                refine gA_int (gA_runV (As := [.int 9, .int 0, .int 0]) (rest := []) (ci := 12) (q0 := 0) hx hb hml hown hg hP hD hK hS hA hnw hgk (s_emit3 l D ks H.size ad kk V174 L175 9 0 0 hMV174 (show (V174 0 48).toInt ≤ 9999 from by first | exact om_50942c6e822d r2.1 t10 pq159 t166 | first | omega | ((try (have i_t165 := Imp.go t165 (by omega))); (try (have i_t8 := Imp.go t8 (by omega))); (try (have i_t8 := Imp.go t8 (by omega))); (try (have i_t165 := Imp.go t165 (by omega))); omega))) w2136 w2138 w111 w172 w2139 rfl rfl hdV_yX12_emit ⟨(by show 0 + 1 ≤ 10 * dd + 13; (first | exact om_9951cd5fb3b5 | omega)), (by show 8 + (4 + 11) + (0) ≤ 300 * dd + 420; (first | exact om_7e29444b50cd | omega))⟩ rfl hl.1 rfl (Nat.le_of_ble_eq_true rfl) dX12_expression_52 ⟨Nat.le_of_ble_eq_true rfl, Nat.le_of_ble_eq_true rfl⟩) hP hD hK hS hA (fun z223 u224 H locs w225 hP hD hK hS => ?_)
                obtain ⟨V229, L230⟩ := u224
                obtain ⟨hMV229, ajV229, axL230, rgz223, t226, t227, t228⟩ := w225
                have axL230 : L175 = L230 := Eq.symm axL230
                subst axL230
                have hP : va_P D vwCl (mw ad kk ks.1 V229 L175) H := hP
                have hD : va_D A (mw ad kk ks.1 V229 L175) := hD
                have hMV229 : rgd bM V229 := hMV229
                have ajV229 : agr [(0, 48)] [45, 46, 47] V174 V229 := ajV229
                have agV229 : agr [(0, 7), (0, 8), (0, 48), (0, 50)] [35, 36, 37, 38, 45, 46, 47] V V229 := agV174.tr ajV229 (by decide) (by decide)
                have rgz223 : 0 ≤ z223.toInt ∧ z223.toInt ≤ 20000 := rgz223
                have t226 : (V229 0 48).toInt = (V174 0 48).toInt + 1 := t226
                have t227 : z223.toInt = (V174 0 49).toInt + (V174 0 48).toInt := t227
                have t228 : emitted V174 V229 (pA V174) 9 0 0 := t228
                have r231 : 0 ≤ ((V229 0 48)).toInt ∧ ((V229 0 48)).toInt ≤ 10000 := hMV229 0 48
                have pq232 : (V174 0 49).toInt = ((V 0 49)).toInt := congrArg Int32.toInt ((ajV174 0 49 rfl).trans ((up2_k hV151 (by decide)).trans (ajV17 0 49 rfl)))
                have r233 : 0 ≤ ((V 0 49)).toInt ∧ ((V 0 49)).toInt ≤ 10000 := hMV 0 49
                refine lv_istore_n (lv' := [(2, .int z223), (1, .int z33), (0, .ref (ad 0))]) hx hb dX12_expression_55 rfl hl (by decide) rfl (fun ls hl => ?_)
                have pq234 : (V229 0 7).toInt = ((V174 0 7)).toInt := congrArg Int32.toInt (ajV229 0 7 rfl)
                have pq235 : (V229 0 8).toInt = ((V174 0 8)).toInt := congrArg Int32.toInt (ajV229 0 8 rfl)
                have pq236 : (V229 0 50).toInt = ((V174 0 50)).toInt := congrArg Int32.toInt (ajV229 0 50 rfl)
                have rw237 : RoV 35 bq V V229 := (fun k hk => ((ajV229 35 k rfl).trans ((t170 k hk).trans ((up2_o hV151 (by decide)).trans ((t13 k hk).trans rfl)))))
                have rw238 : RoV 37 bq V V229 := (fun k hk => ((ajV229 37 k rfl).trans ((t171 k hk).trans ((up2_o hV151 (by decide)).trans ((t14 k hk).trans rfl)))))
                have rw239 : RoL 36 20 bq L L175 := (fun k hk => ((t172 k hk).trans ((t15 k hk).trans rfl)))
                have rw240 : RoL 38 20 bq L L175 := (fun k hk => ((t173 k hk).trans ((t16 k hk).trans rfl)))
                exact W.vret hx hb hr (fun t ht hW => ⟨⟨(V229, L175), rfl, ⟨hMV229, agV229, alL175, (Imp.mk (fun hp => have hp : (V229 0 8).toInt = 0 := hp; (show (V229 0 48).toInt - (V 0 48).toInt ≤ 2 * ((V229 0 7).toInt - (V 0 7).toInt) from by first | exact om_24ed42d66743 hz150 pq157 pq158 t226 pq234 ((Imp.go t8 ((pq156.symm).trans (fz155.2.2.1)))) ((Imp.go t165 ((pq235.symm).trans (hp)))) | first | omega | ((try (have i_t165 := Imp.go t165 (by omega))); (try (have i_t8 := Imp.go t8 (by omega))); (try (have i_t8 := Imp.go t8 (by omega))); (try (have i_t165 := Imp.go t165 (by omega))); omega)))), (show (V229 0 48).toInt ≤ 8051 - 6 * (V 0 50).toInt from by first | exact om_7a4146f78230 t10 pq159 t166 t226 | first | omega | ((try (have i_t165 := Imp.go t165 (by omega))); (try (have i_t8 := Imp.go t8 (by omega))); (try (have i_t8 := Imp.go t8 (by omega))); (try (have i_t165 := Imp.go t165 (by omega))); omega)), (show (V229 0 50).toInt = (V 0 50).toInt from by first | exact om_354a89fdc05f t10 pq159 t167 pq236 | first | omega | ((try (have i_t165 := Imp.go t165 (by omega))); (try (have i_t8 := Imp.go t8 (by omega))); (try (have i_t8 := Imp.go t8 (by omega))); (try (have i_t165 := Imp.go t165 (by omega))); omega)), (show (V 0 48).toInt ≤ (V229 0 48).toInt from by first | exact om_f68890bd9a1b t11 pq158 t168 t226 | first | omega | ((try (have i_t165 := Imp.go t165 (by omega))); (try (have i_t8 := Imp.go t8 (by omega))); (try (have i_t8 := Imp.go t8 (by omega))); (try (have i_t165 := Imp.go t165 (by omega))); omega)), (Or.inr ⟨(show 1 ≤ (V229 0 8).toInt from by omega), (fun k => by rw [show (V229 0 8).toInt = (V174 0 8).toInt from by omega]; exact hb218 k)⟩), rw237, rw238, rw239, rw240⟩, by rw [ht]; exact hP, va_K.moved hW.alike hK, hD⟩, hS.F ht⟩) hS.2.2 dX12_expression_56
              · skip
                have f241 : z33.toInt ≠ 0 := b_neq rfl (by decide) c219
                exfalso; first | exact om_fb320d7600b7 rgz33.1 f138 f241 | first | omega | ((try (have i_t165 := Imp.go t165 (by omega))); (try (have i_t8 := Imp.go t8 (by omega))); (try (have i_t8 := Imp.go t8 (by omega))); (try (have i_t165 := Imp.go t165 (by omega))); omega)
        · skip
          have kd242 : gT.1 (sx23.1 0) ≠ 61 := fun h9 => h145 (h9.trans (by decide))
          refine lv_if_eq (tgt := 56) hx hb dX12_expression_21 (by decide) (fun c243 => ?_) (fun c243 => ?_)
          · skip
            have f244 : z140.toInt = 0 := b_eq rfl (by decide) c243
            have hr245 : ∀ k, Rc gT (Crun gs (Iexpr gd :: k)) (Crun sx23 (k)) := fun k => Rc.go1 (hr29 k) (cmp_n gd kd135 kd242)
            have rw246 : RoV 35 bq V V17 := (fun k hk => ((t13 k hk).trans rfl))
            have rw247 : RoV 37 bq V V17 := (fun k hk => ((t14 k hk).trans rfl))
            have rw248 : RoL 36 20 bq L L18 := (fun k hk => ((t15 k hk).trans rfl))
            have rw249 : RoL 38 20 bq L L18 := (fun k hk => ((t16 k hk).trans rfl))
            exact W.vret hx hb hr (fun t ht hW => ⟨⟨(V17, L18), rfl, ⟨hMV17, agV17, alL18, (Imp.mk (fun hp => have hp : (V17 0 8).toInt = 0 := hp; (show (V17 0 48).toInt - (V 0 48).toInt ≤ 2 * ((V17 0 7).toInt - (V 0 7).toInt) from by first | exact om_b91cb2530a91 ((Imp.go t8 (hp))) | first | omega | ((try (have i_t8 := Imp.go t8 (by omega))); omega)))), (show (V17 0 48).toInt ≤ 8051 - 6 * (V 0 50).toInt from by first | exact om_98da5f42c291 t9 | first | omega | ((try (have i_t8 := Imp.go t8 (by omega))); omega)), (show (V17 0 50).toInt = (V 0 50).toInt from by first | exact om_570b691c1130 t10 | first | omega | ((try (have i_t8 := Imp.go t8 (by omega))); omega)), (show (V 0 48).toInt ≤ (V17 0 48).toInt from by first | exact om_f4906d00fa52 t11 | first | omega | ((try (have i_t8 := Imp.go t8 (by omega))); omega)), (Or.inl ⟨W0 rl25, sx23, hr245, rl25, keepS.le (keepS.tr (keepS.rf : keepS gs 0 gs) kp26) (by decide), (keepE.tr (keepE.rf : keepE gs gs) ke27), cd28⟩), rw246, rw247, rw248, rw249⟩, by rw [ht]; exact hP, va_K.moved hW.alike hK, hD⟩, hS.F ht⟩) hS.2.2 dX12_expression_56
          · skip
            have f250 : z140.toInt ≠ 0 := b_neq rfl (by decide) c243
            exfalso; first | exact om_fb320d7600b7 rgz140.1 q144 f250 | first | omega | ((try (have i_t8 := Imp.go t8 (by omega))); omega)
  · skip
    have hb251 : ∀ k, Rc gT (Crun gs (Iexpr gd :: k)) (Cbad (V17 0 8).toInt) := fun k => (hr4 k).tr (h24 (Icmp gd :: k))
    refine lv_aload_n hx hb dX12_expression_4 rfl (lv_at hl 0 rfl) ?_
    refine lv_bipush (v := 60) hx hb dX12_expression_5 (by decide) ?_
    have r252 : Int32.toInt 60 = 60 := by decide
    refine gA_int (gA_runV (As := [.int 60]) (rest := []) (ci := 12) (q0 := 0) hx hb hml hown hg hP hD hK hS hA hnw hgk (s_isSignB l D ks H.size ad kk V17 L18 60 hMV17 (show 1 ≤ (V17 0 8).toInt from by first | omega | ((try (have i_t8 := Imp.go t8 (by omega))); omega))) w2071 w2073 w95 w172 w2074 rfl rfl hdV_yX12_isSign ⟨(by show 0 + 1 ≤ 10 * dd + 13; (first | exact om_9951cd5fb3b5 | omega)), (by show 8 + (2 + 11) + (0) ≤ 300 * dd + 420; (first | exact om_a5f6827dfb36 | omega))⟩ rfl hl.1 rfl (Nat.le_of_ble_eq_true rfl) dX12_expression_7 ⟨Nat.le_of_ble_eq_true rfl, Nat.le_of_ble_eq_true rfl⟩) hP hD hK hS hA (fun z253 u254 H locs w255 hP hD hK hS => ?_)
    have rgz253 := w255
    have rgz253 : 0 ≤ z253.toInt ∧ z253.toInt ≤ 0 := rgz253
    refine lv_istore_n (lv' := [(1, .int z253), (0, .ref (ad 0))]) hx hb dX12_expression_10 rfl hl (by decide) rfl (fun ls hl => ?_)
    refine lv_iload_n hx hb dX12_expression_11 rfl (lv_at hl 0 rfl) ?_
    refine lv_if_ne (tgt := 24) hx hb dX12_expression_12 (by decide) (fun c256 => ?_) (fun c256 => ?_)
    · skip
      have f257 : z253.toInt ≠ 0 := b_neq rfl (by decide) c256
      exfalso; first | exact om_0e608cc4b4f6 rgz253.1 rgz253.2 f257 | first | omega | ((try (have i_t8 := Imp.go t8 (by omega))); omega)
    · skip
      have f258 : z253.toInt = 0 := b_eq rfl (by decide) c256
      refine lv_aload_n hx hb dX12_expression_15 rfl (lv_at hl 1 rfl) ?_
      refine lv_bipush (v := 61) hx hb dX12_expression_16 (by decide) ?_
      have r259 : Int32.toInt 61 = 61 := by decide
      refine gA_int (gA_runV (As := [.int 61]) (rest := []) (ci := 12) (q0 := 0) hx hb hml hown hg hP hD hK hS hA hnw hgk (s_isSignB l D ks H.size ad kk V17 L18 61 hMV17 (show 1 ≤ (V17 0 8).toInt from by first | omega | ((try (have i_t8 := Imp.go t8 (by omega))); omega))) w2071 w2073 w95 w172 w2074 rfl rfl hdV_yX12_isSign ⟨(by show 0 + 1 ≤ 10 * dd + 13; (first | exact om_9951cd5fb3b5 | omega)), (by show 8 + (2 + 11) + (0) ≤ 300 * dd + 420; (first | exact om_a5f6827dfb36 | omega))⟩ rfl hl.1 rfl (Nat.le_of_ble_eq_true rfl) dX12_expression_18 ⟨Nat.le_of_ble_eq_true rfl, Nat.le_of_ble_eq_true rfl⟩) hP hD hK hS hA (fun z260 u261 H locs w262 hP hD hK hS => ?_)
      have rgz260 := w262
      have rgz260 : 0 ≤ z260.toInt ∧ z260.toInt ≤ 0 := rgz260
      refine lv_if_eq (tgt := 56) hx hb dX12_expression_21 (by decide) (fun c263 => ?_) (fun c263 => ?_)
      · skip
        have f264 : z260.toInt = 0 := b_eq rfl (by decide) c263
        have rw265 : RoV 35 bq V V17 := (fun k hk => ((t13 k hk).trans rfl))
        have rw266 : RoV 37 bq V V17 := (fun k hk => ((t14 k hk).trans rfl))
        have rw267 : RoL 36 20 bq L L18 := (fun k hk => ((t15 k hk).trans rfl))
        have rw268 : RoL 38 20 bq L L18 := (fun k hk => ((t16 k hk).trans rfl))
        exact W.vret hx hb hr (fun t ht hW => ⟨⟨(V17, L18), rfl, ⟨hMV17, agV17, alL18, (Imp.mk (fun hp => have hp : (V17 0 8).toInt = 0 := hp; (show (V17 0 48).toInt - (V 0 48).toInt ≤ 2 * ((V17 0 7).toInt - (V 0 7).toInt) from by first | exact om_b91cb2530a91 ((Imp.go t8 (hp))) | first | omega | ((try (have i_t8 := Imp.go t8 (by omega))); omega)))), (show (V17 0 48).toInt ≤ 8051 - 6 * (V 0 50).toInt from by first | exact om_98da5f42c291 t9 | first | omega | ((try (have i_t8 := Imp.go t8 (by omega))); omega)), (show (V17 0 50).toInt = (V 0 50).toInt from by first | exact om_570b691c1130 t10 | first | omega | ((try (have i_t8 := Imp.go t8 (by omega))); omega)), (show (V 0 48).toInt ≤ (V17 0 48).toInt from by first | exact om_f4906d00fa52 t11 | first | omega | ((try (have i_t8 := Imp.go t8 (by omega))); omega)), (Or.inr ⟨(show 1 ≤ (V17 0 8).toInt from by omega), hb251⟩), rw265, rw266, rw267, rw268⟩, by rw [ht]; exact hP, va_K.moved hW.alike hK, hD⟩, hS.F ht⟩) hS.2.2 dX12_expression_56
      · skip
        have f269 : z260.toInt ≠ 0 := b_neq rfl (by decide) c263
        exfalso; first | exact om_0e608cc4b4f6 rgz260.1 rgz260.2 f269 | first | omega | ((try (have i_t8 := Imp.go t8 (by omega))); omega)
set_option maxHeartbeats 4000000 in
set_option maxRecDepth 100000 in
theorem s_sumA {l : Launch} {D : va_G} {ks : KS} {dd : Nat} (hk_s_productA : K_s_productA l D ks dd) : K_s_sumA l D ks dd := by
  intro sz ad kk V L  bq gn gT gs gl gd hMV rel c1 yd c4 em cdm
  refine g_met (q_s_sumA D ks ad kk V L  bq gn gT gs gl gd) (by decide) (Nat.le_of_ble_eq_true rfl) ?_
  intro p e s m below meth c A ls H locs hx hb hr hml hown hg hlocks hin hnw hgk hP hK hD hS hA hl
  have hown : s.vm.findClass RX12 = some m.cls := hown
  have hl : lv_has ls 3 [(0, .ref (ad 0))] := hl
  have hP : va_P D vwCl (mw ad kk ks.1 V L) H := hP
  have hD : va_D A (mw ad kk ks.1 V L) := hD
  have hK : va_K D vwCl (mty kk) s := hK
  have agV : agr [(0, 7), (0, 8), (0, 48), (0, 50)] [35, 36, 37, 38, 45, 46, 47] V V := agr.rf
  have alL : agL [35, 36, 37, 38, 45, 46, 47] L L := agL.rf
  have r1 : 0 ≤ ((V 0 48)).toInt ∧ ((V 0 48)).toInt ≤ 10000 := hMV 0 48
  have r2 : 0 ≤ ((V 0 50)).toInt ∧ ((V 0 50)).toInt ≤ 9 := hMV 0 50
  have rg0 := RelM.rg rel
  have cl0 := RelM.cl rel
  have cq0 := RelM.cq rel
  refine lv_aload_n hx hb dX12_sum_0 rfl (lv_at hl 0 rfl) ?_
  have hr3 : ∀ k, Rc gT (Crun gs (Isum gd :: k)) (Crun gs (Isum gd :: k)) := fun k => Rc.rf
  have hr4 : ∀ k, Rc gT (Crun gs (Isum gd :: k)) (Crun gs (Iprod gd :: IsumR gd :: k)) := fun k => Rc.go1 (hr3 k) (m_sum gd)
  refine gA_void (gA_runV (As := []) (rest := []) (ci := 12) (q0 := 0) hx hb hml hown hg hP hD hK hS hA hnw hgk (hk_s_productA H.size ad kk V L (bq) (gn) (gT) (gs) (gl) (gd) hMV rel (show (V 0 48).toInt ≤ 2 * (V 0 7).toInt from by (first | exact om_25cd5ecd1f71 c1 | omega)) (show (V 0 50).toInt = ((gd) : Int) from by (first | exact om_08e0c9701055 yd | omega)) (show (V 0 50).toInt + (dd : Int) = 8 from by (first | exact om_a46d3d9b9c91 c4 | omega)) em cdm) w2124 w2126 w108 w172 w2127 rfl rfl hdV_yX12_product ⟨(by show 10 * dd + 11 + 1 ≤ 10 * dd + 12; (first | exact om_05e50ff0fdfa | omega)), (by show 8 + (2 + 11) + (300 * dd + 340) ≤ 300 * dd + 380; (first | exact om_8190647da377 | omega))⟩ rfl hl.1 rfl (Nat.le_of_ble_eq_true rfl) dX12_sum_1 ⟨Nat.le_of_ble_eq_true rfl, Nat.le_of_ble_eq_true rfl⟩) hP hD hK hS hA (fun u6 H locs w7 hP hD hK hS => ?_)
  obtain ⟨V17, L18⟩ := u6
  obtain ⟨hMV17, ajV17, axL18, t8, t9, t10, t11, t12, t13, t14, t15, t16⟩ := w7
  have alL18 : agL [35, 36, 37, 38, 45, 46, 47] L L18 := agL.tr alL axL18 (by decide)
  have hP : va_P D vwCl (mw ad kk ks.1 V17 L18) H := hP
  have hD : va_D A (mw ad kk ks.1 V17 L18) := hD
  have hMV17 : rgd bM V17 := hMV17
  have ajV17 : agr [(0, 7), (0, 8), (0, 48), (0, 50)] [35, 36, 37, 38, 45, 46, 47] V V17 := ajV17
  have agV17 : agr [(0, 7), (0, 8), (0, 48), (0, 50)] [35, 36, 37, 38, 45, 46, 47] V V17 := agV.tr ajV17 (by decide) (by decide)
  have t8 : Imp ((V17 0 8).toInt = 0) ((V17 0 48).toInt - (V 0 48).toInt ≤ 2 * ((V17 0 7).toInt - (V 0 7).toInt)) := t8
  have t9 : (V17 0 48).toInt ≤ 8049 - 6 * (V 0 50).toInt := t9
  have t10 : (V17 0 50).toInt = (V 0 50).toInt := t10
  have t11 : (V 0 48).toInt ≤ (V17 0 48).toInt := t11
  have t12 : RdM (gT) (gs) (fun k => Iprod (gd) :: k) (fun k => k) (V17 0 8).toInt (fun s9 => RelM V17 L18 (bq) (gn) (gT) s9 (gl) ∧ keepS (gs) 1 s9 ∧ keepE (gs) s9 ∧ CDm V17 (10000 * (bq)) s9) := t12
  have t13 : RoV 35 (bq) V V17 := t13
  have t14 : RoV 37 (bq) V V17 := t14
  have t15 : RoL 36 20 (bq) L L18 := t15
  have t16 : RoL 38 20 (bq) L L18 := t16
  have r19 : 0 ≤ ((V17 0 48)).toInt ∧ ((V17 0 48)).toInt ≤ 10000 := hMV17 0 48
  have r20 : 0 ≤ ((V17 0 8)).toInt ∧ ((V17 0 8)).toInt ≤ 70000 := hMV17 0 8
  have r21 : 0 ≤ ((V17 0 50)).toInt ∧ ((V17 0 50)).toInt ≤ 9 := hMV17 0 50
  rcases t12 with ⟨q22, sx23, h24, rl25, kp26, ke27, cd28⟩ | ⟨q22, h24⟩
  · skip
    have hr29 : ∀ k, Rc gT (Crun gs (Isum gd :: k)) (Crun sx23 (IsumR gd :: k)) := fun k => (hr4 k).tr (h24 (IsumR gd :: k))
    have fz30 := RelM.rg rl25
    have ps31 := (kp26).1
    have lp35 : ∀ (fulp35 : Nat) (g34 : Int) (V32 : Vf) (L33 : Lf) (H : Heap) (locs : List Loc) (ls : Array Slot), (((V32 0 8).toInt = 0 ∧ ∃ s1 : St, (∀ k, Rc gT (Crun gs (Isum gd :: k)) (Crun s1 (IsumR gd :: k))) ∧ RelM V32 L33 bq gn gT s1 gl ∧ keepS gs 1 s1 ∧ keepE gs s1 ∧ CDm V32 (10000 * bq) s1) ∨ (1 ≤ (V32 0 8).toInt ∧ ∀ k, Rc gT (Crun gs (Isum gd :: k)) (Cbad (V32 0 8).toInt))) → 0 ≤ g34 → Imp ((V32 0 8).toInt = 0) ((gn : Int) - (V32 0 7).toInt < g34) → Imp ((V32 0 8).toInt = 0) ((V32 0 48).toInt - (V 0 48).toInt ≤ 2 * ((V32 0 7).toInt - (V 0 7).toInt)) → (V32 0 48).toInt ≤ 8050 - 6 * (V 0 50).toInt → (V32 0 50).toInt = (V 0 50).toInt → (V 0 48).toInt ≤ (V32 0 48).toInt → (RoV 35 bq V V32) → (RoV 37 bq V V32) → (RoL 36 20 bq L L33) → (RoL 38 20 bq L L33) → g34 < (fulp35 : Int) → agL [35, 36, 37, 38, 45, 46, 47] L L33 → agr [(0, 7), (0, 8), (0, 48), (0, 50)] [35, 36, 37, 38, 45, 46, 47] V17 V32 → rgd bM V32 → va_P D vwCl (mw ad kk ks.1 V32 L33) H → va_D A (mw ad kk ks.1 V32 L33) → va_S A s.heap H locs → lv_has ls 3 [(0, .ref (ad 0))] → W p l e (rK 12 380 dd) s m ([.ref (ad 0)] : List Value).toArray below meth c H locs 0 0 (MQ below (q_s_sumA D ks ad kk V L  bq gn gT gs gl gd A) ([.ref (ad 0)] : List Value).toArray s 0 0 A) (F0 m 4 ls []) := by
      intro fulp35
      induction fulp35 with
      | zero =>
        intro g34 V32 L33 H locs ls xlp35_0 xlp35_1 xlp35_2 xlp35_3 xlp35_4 xlp35_5 xlp35_6 xlp35_7 xlp35_8 xlp35_9 xlp35_10 hn alL33 ajV32 hMV32 hP hD hS hl
        exfalso; (first | exact om_21e89d3d06d7 xlp35_1 hn | omega)
      | succ fulp35 ihlp35 =>
        intro g34 V32 L33 H locs ls xlp35_0 xlp35_1 xlp35_2 xlp35_3 xlp35_4 xlp35_5 xlp35_6 xlp35_7 xlp35_8 xlp35_9 xlp35_10 hn alL33 ajV32 hMV32 hP hD hS hl
        have agV32 : agr [(0, 7), (0, 8), (0, 48), (0, 50)] [35, 36, 37, 38, 45, 46, 47] V V32 := agV17.tr ajV32 (by decide) (by decide)
        have r36 : 0 ≤ ((V32 0 8)).toInt ∧ ((V32 0 8)).toInt ≤ 70000 := hMV32 0 8
        have r37 : 0 ≤ ((V32 0 48)).toInt ∧ ((V32 0 48)).toInt ≤ 10000 := hMV32 0 48
        have r38 : 0 ≤ ((V32 0 50)).toInt ∧ ((V32 0 50)).toInt ≤ 9 := hMV32 0 50
        refine lv_aload_n hx hb dX12_sum_4 rfl (lv_at hl 0 rfl) ?_
        rcases xlp35_0 with ⟨f8, s1, hq, rq, kq, eq9, dq9⟩ | ⟨f8, hq⟩
        · skip
          have fz39 := RelM.rg rq
          refine lv_bipush (v := 43) hx hb dX12_sum_5 (by decide) ?_
          have r40 : Int32.toInt 43 = 43 := by decide
          refine gA_int (gA_runV (As := [.int 43]) (rest := []) (ci := 12) (q0 := 0) hx hb hml hown hg hP hD hK hS hA hnw hgk (s_isSignA l D ks H.size ad kk V32 L33 43 (bq) (gn) (gT) (s1) (gl) hMV32 rq (sg_yes (j := 43) (by decide) (by decide) (by decide))) w2071 w2073 w95 w172 w2074 rfl rfl hdV_yX12_isSign ⟨(by show 0 + 1 ≤ 10 * dd + 12; (first | exact om_fdd9c7754232 | omega)), (by show 8 + (2 + 11) + (0) ≤ 300 * dd + 380; (first | exact om_1d76971512b8 | omega))⟩ rfl hl.1 rfl (Nat.le_of_ble_eq_true rfl) dX12_sum_7 ⟨Nat.le_of_ble_eq_true rfl, Nat.le_of_ble_eq_true rfl⟩) hP hD hK hS hA (fun z41 u42 H locs w43 hP hD hK hS => ?_)
          obtain ⟨rgz41, t44⟩ := w43
          have rgz41 : 0 ≤ z41.toInt ∧ z41.toInt ≤ 1 := rgz41
          have t44 : (z41.toInt = 1 ∧ (gT).1 ((s1).1 0) = (Int32.toInt 43)) ∨ (z41.toInt = 0 ∧ (gT).1 ((s1).1 0) ≠ (Int32.toInt 43)) := t44
          rcases t44 with ⟨q45, h46⟩ | ⟨q45, h46⟩
          · skip
            have kd47 : gT.1 (s1.1 0) = 43 := h46.trans (by decide)
            refine lv_if_ne (tgt := 22) hx hb dX12_sum_10 (by decide) (fun c48 => ?_) (fun c48 => ?_)
            · skip
              have f49 : z41.toInt ≠ 0 := b_neq rfl (by decide) c48
              refine lv_aload_n hx hb dX12_sum_22 rfl (lv_at hl 0 rfl) ?_
              refine lv_bipush (v := 43) hx hb dX12_sum_23 (by decide) ?_
              refine gA_int (gA_runV (As := [.int 43]) (rest := []) (ci := 12) (q0 := 0) hx hb hml hown hg hP hD hK hS hA hnw hgk (s_isSignA l D ks H.size ad kk V32 L33 43 (bq) (gn) (gT) (s1) (gl) hMV32 rq (sg_yes (j := 43) (by decide) (by decide) (by decide))) w2071 w2073 w95 w172 w2074 rfl rfl hdV_yX12_isSign ⟨(by show 0 + 1 ≤ 10 * dd + 12; (first | exact om_fdd9c7754232 | omega)), (by show 8 + (2 + 11) + (0) ≤ 300 * dd + 380; (first | exact om_1d76971512b8 | omega))⟩ rfl hl.1 rfl (Nat.le_of_ble_eq_true rfl) dX12_sum_25 ⟨Nat.le_of_ble_eq_true rfl, Nat.le_of_ble_eq_true rfl⟩) hP hD hK hS hA (fun z50 u51 H locs w52 hP hD hK hS => ?_)
              obtain ⟨rgz50, t53⟩ := w52
              have rgz50 : 0 ≤ z50.toInt ∧ z50.toInt ≤ 1 := rgz50
              have t53 : (z50.toInt = 1 ∧ (gT).1 ((s1).1 0) = (Int32.toInt 43)) ∨ (z50.toInt = 0 ∧ (gT).1 ((s1).1 0) ≠ (Int32.toInt 43)) := t53
              rcases t53 with ⟨q54, h55⟩ | ⟨q54, h55⟩
              · skip
                have kd56 : gT.1 (s1.1 0) = 43 := h55.trans (by decide)
                refine lv_if_eq (tgt := 36) hx hb dX12_sum_28 (by decide) (fun c57 => ?_) (fun c57 => ?_)
                · skip
                  have f58 : z50.toInt = 0 := b_eq rfl (by decide) c57
                  exfalso; first | exact om_495ee03a60ae q54 f58 | first | omega | ((try (have i_xlp35_3 := Imp.go xlp35_3 (by omega))); (try (have i_xlp35_2 := Imp.go xlp35_2 (by omega))); (try (have i_t8 := Imp.go t8 (by omega))); (try (have i_t8 := Imp.go t8 (by omega))); (try (have i_xlp35_2 := Imp.go xlp35_2 (by omega))); (try (have i_xlp35_3 := Imp.go xlp35_3 (by omega))); omega)
                · skip
                  have f59 : z50.toInt ≠ 0 := b_neq rfl (by decide) c57
                  refine lv_bipush (v := 6) hx hb dX12_sum_31 (by decide) ?_
                  refine lv_goto (tgt := 38) hx hb dX12_sum_33 (by decide) ?_
                  refine lv_istore_n (lv' := [(1, .int 6), (0, .ref (ad 0))]) hx hb dX12_sum_38 rfl hl (by decide) rfl (fun ls hl => ?_)
                  refine lv_aload_n hx hb dX12_sum_39 rfl (lv_at hl 1 rfl) ?_
                  refine lv_dup hx hb dX12_sum_40 rfl ?_
                  refine va_get (D := D) (ci := 12) (v := .int (V32 0 7)) (C := RX12) (T := TX12) (N := 100) hx hb hg inX12 hown hK hP 0 rfl rfl 7 (by decide) (hg _ w1713) (fun _ h9 => h9) rfl dX12_sum_41 ?_
                  refine lv_iconst (v := 1) hx hb dX12_sum_44 (by decide) ?_
                  refine lv_iadd hx hb dX12_sum_45 ?_
                  refine lv_topi (fun z60 ez60 => ?_)
                  have hz60 : z60.toInt = ((V32 0 7)).toInt + 1 := i_add ez60 rfl (by decide) (by omega)
                  refine va_put (D := D) (ci := 12) (v := .int z60) (ty := tyX12 7) (C := RX12) (T := TX12) (N := 100) hx hb hg inX12 tyX12 tyX12_ok nmX12 hown hK hP hD hS 0 rfl rfl 7 (by decide) (hg _ w1713) (fun _ h9 => h9) rfl (tyX12_ok 7 (by decide)) rfl rfl (Nat.le_of_ble_eq_true rfl) dX12_sum_46 (fun H locs hP hD hS => ?_)
                  obtain ⟨V61, hV61⟩ : ∃ z, z = up2 V32 0 7 z60 := ⟨_, rfl⟩
                  have hP : va_P D vwCl (mw ad kk ks.1 V61 L33) H := by rw [hV61]; exact hP
                  have hD : va_D A (mw ad kk ks.1 V61 L33) := by rw [hV61]; exact hD
                  have hMV61 : rgd bM V61 := hMV32.put hV61 (i_full _)
                  have agV61 : agr [(0, 7), (0, 8), (0, 48), (0, 50)] [35, 36, 37, 38, 45, 46, 47] V V61 := agV32.up hV61 rfl
                  have hr62 : ∀ k, Rc gT (Crun gs (Isum gd :: k)) (Crun (nx s1 1) (Iprod gd :: Iem 6 :: IsumR gd :: k)) := fun k => Rc.go1 (hq k) (sumR_43 gd kd56)
                  have rl63 : RelM V61 L33 bq gn gT (nx s1 1) gl := RelM.n1 rq hV61 (by (first | exact om_55c67efb91e5 hz60 | omega)) (by rw [kd56]; decide)
                  have ps64 : (nx s1 1).1 0 = s1.1 0 + 1 := rfl
                  have fz65 := RelM.rg rl63
                  have pq66 : (V61 0 8).toInt = ((V32 0 8)).toInt := congrArg Int32.toInt (up2_k hV61 (by decide))
                  have pq67 : (V61 0 7).toInt = z60.toInt := congrArg Int32.toInt (up2_s hV61)
                  refine lv_aload_n hx hb dX12_sum_49 rfl (lv_at hl 1 rfl) ?_
                  have pq68 : (V61 0 48).toInt = ((V32 0 48)).toInt := congrArg Int32.toInt (up2_k hV61 (by decide))
                  have pq69 : (V61 0 50).toInt = ((V32 0 50)).toInt := congrArg Int32.toInt (up2_k hV61 (by decide))
                  have cd70 : CDm V61 (10000 * bq) s1 := CDm.ag dq9 (show agr [(0, 7)] [] V32 V61 from (agr.up agr.rf hV61 rfl)) ⟨rfl, rfl, fun _ => ⟨rfl, rfl, rfl⟩⟩
                  have cd71 : CDm V61 (10000 * bq) (nx s1 1) := CDm.mv cd70 (show ∀ j9, j9 = 5 ∨ 2000 ≤ j9 → (nx s1 1).2.1 j9 = s1.2.1 j9 from fun j9 h9 => (show ∀ j9, 5 ≤ j9 → (nx s1 1).2.1 j9 = s1.2.1 j9 from fun _ _ => rfl) j9 (by omega))
                  refine gA_void (gA_runV (As := []) (rest := []) (ci := 12) (q0 := 0) hx hb hml hown hg hP hD hK hS hA hnw hgk (hk_s_productA H.size ad kk V61 L33 (bq) (gn) (gT) ((nx s1 1)) (gl) (gd) hMV61 rl63 (show (V61 0 48).toInt ≤ 2 * (V61 0 7).toInt from by first | exact om_a28408d17a52 c1 hz60 pq67 pq68 ((Imp.go xlp35_3 ((pq66.symm).trans (fz65.2.2.1)))) | first | omega | ((try (have i_xlp35_3 := Imp.go xlp35_3 (by omega))); (try (have i_xlp35_2 := Imp.go xlp35_2 (by omega))); (try (have i_t8 := Imp.go t8 (by omega))); (try (have i_t8 := Imp.go t8 (by omega))); (try (have i_xlp35_2 := Imp.go xlp35_2 (by omega))); (try (have i_xlp35_3 := Imp.go xlp35_3 (by omega))); omega)) (show (V61 0 50).toInt = ((gd) : Int) from by first | exact om_047d18a7ea93 yd xlp35_5 pq69 | first | omega | ((try (have i_xlp35_3 := Imp.go xlp35_3 (by omega))); (try (have i_xlp35_2 := Imp.go xlp35_2 (by omega))); (try (have i_t8 := Imp.go t8 (by omega))); (try (have i_t8 := Imp.go t8 (by omega))); (try (have i_xlp35_2 := Imp.go xlp35_2 (by omega))); (try (have i_xlp35_3 := Imp.go xlp35_3 (by omega))); omega)) (show (V61 0 50).toInt + (dd : Int) = 8 from by first | exact om_cf161be9456d c4 xlp35_5 pq69 | first | omega | ((try (have i_xlp35_3 := Imp.go xlp35_3 (by omega))); (try (have i_xlp35_2 := Imp.go xlp35_2 (by omega))); (try (have i_t8 := Imp.go t8 (by omega))); (try (have i_t8 := Imp.go t8 (by omega))); (try (have i_xlp35_2 := Imp.go xlp35_2 (by omega))); (try (have i_xlp35_3 := Imp.go xlp35_3 (by omega))); omega)) (EM.mv em ((up2_k hV61 (by decide)).trans ((ajV32 0 51 rfl).trans (ajV17 0 51 rfl))) ((up2_k hV61 (by decide)).trans ((ajV32 0 52 rfl).trans (ajV17 0 52 rfl))) (by rw [(up2_fo hV61 (by decide) : V61 27 = V32 27), (funext (fun q => ajV32 27 q rfl) : V32 27 = V17 27), (funext (fun q => ajV17 27 q rfl) : V17 27 = V 27)] : V61 27 = V 27) ((keepS.tr (keepS.tr (keepS.rf : keepS gs 0 gs) kq) (keepS.n1 1))).2.1) cd71) w2124 w2126 w108 w172 w2127 rfl rfl hdV_yX12_product ⟨(by show 10 * dd + 11 + 1 ≤ 10 * dd + 12; (first | exact om_05e50ff0fdfa | omega)), (by show 8 + (2 + 11) + (300 * dd + 340) ≤ 300 * dd + 380; (first | exact om_8190647da377 | omega))⟩ rfl hl.1 rfl (Nat.le_of_ble_eq_true rfl) dX12_sum_50 ⟨Nat.le_of_ble_eq_true rfl, Nat.le_of_ble_eq_true rfl⟩) hP hD hK hS hA (fun u73 H locs w74 hP hD hK hS => ?_)
                  obtain ⟨V84, L85⟩ := u73
                  obtain ⟨hMV84, ajV84, axL85, t75, t76, t77, t78, t79, t80, t81, t82, t83⟩ := w74
                  have alL85 : agL [35, 36, 37, 38, 45, 46, 47] L L85 := agL.tr alL33 axL85 (by decide)
                  have hP : va_P D vwCl (mw ad kk ks.1 V84 L85) H := hP
                  have hD : va_D A (mw ad kk ks.1 V84 L85) := hD
                  have hMV84 : rgd bM V84 := hMV84
                  have ajV84 : agr [(0, 7), (0, 8), (0, 48), (0, 50)] [35, 36, 37, 38, 45, 46, 47] V61 V84 := ajV84
                  have agV84 : agr [(0, 7), (0, 8), (0, 48), (0, 50)] [35, 36, 37, 38, 45, 46, 47] V V84 := agV61.tr ajV84 (by decide) (by decide)
                  have t75 : Imp ((V84 0 8).toInt = 0) ((V84 0 48).toInt - (V61 0 48).toInt ≤ 2 * ((V84 0 7).toInt - (V61 0 7).toInt)) := t75
                  have t76 : (V84 0 48).toInt ≤ 8049 - 6 * (V61 0 50).toInt := t76
                  have t77 : (V84 0 50).toInt = (V61 0 50).toInt := t77
                  have t78 : (V61 0 48).toInt ≤ (V84 0 48).toInt := t78
                  have t79 : RdM (gT) ((nx s1 1)) (fun k => Iprod (gd) :: k) (fun k => k) (V84 0 8).toInt (fun s9 => RelM V84 L85 (bq) (gn) (gT) s9 (gl) ∧ keepS ((nx s1 1)) 1 s9 ∧ keepE ((nx s1 1)) s9 ∧ CDm V84 (10000 * (bq)) s9) := t79
                  have t80 : RoV 35 (bq) V61 V84 := t80
                  have t81 : RoV 37 (bq) V61 V84 := t81
                  have t82 : RoL 36 20 (bq) L33 L85 := t82
                  have t83 : RoL 38 20 (bq) L33 L85 := t83
                  have r86 : 0 ≤ ((V84 0 48)).toInt ∧ ((V84 0 48)).toInt ≤ 10000 := hMV84 0 48
                  have r87 : 0 ≤ ((V84 0 8)).toInt ∧ ((V84 0 8)).toInt ≤ 70000 := hMV84 0 8
                  have r88 : 0 ≤ ((V84 0 50)).toInt ∧ ((V84 0 50)).toInt ≤ 9 := hMV84 0 50
                  rcases t79 with ⟨q89, sx90, h91, rl92, kp93, ke94, cd95⟩ | ⟨q89, h91⟩
                  · skip
                    have hr96 : ∀ k, Rc gT (Crun gs (Isum gd :: k)) (Crun sx90 (Iem 6 :: IsumR gd :: k)) := fun k => (hr62 k).tr (h91 (Iem 6 :: IsumR gd :: k))
                    have fz97 := RelM.rg rl92
                    have ps98 := (kp93).1
                    refine lv_aload_n hx hb dX12_sum_53 rfl (lv_at hl 1 rfl) ?_
                    refine lv_iload_n hx hb dX12_sum_54 rfl (lv_at hl 0 rfl) ?_
                    refine lv_iconst (v := 0) hx hb dX12_sum_55 (by decide) ?_
                    refine lv_iconst (v := 0) hx hb dX12_sum_56 (by decide) ?_
                    have r99 : Int32.toInt 6 = 6 := by decide
                    have r100 : Int32.toInt 0 = 0 := by decide
                    refine gA_int (gA_runV (As := [.int 6, .int 0, .int 0]) (rest := []) (ci := 12) (q0 := 0) hx hb hml hown hg hP hD hK hS hA hnw hgk (s_emit3 l D ks H.size ad kk V84 L85 6 0 0 hMV84 (show (V84 0 48).toInt ≤ 9999 from by first | exact om_474d9bc6967f r2.1 xlp35_5 pq69 t76 | first | omega | ((try (have i_t75 := Imp.go t75 (by omega))); (try (have i_xlp35_3 := Imp.go xlp35_3 (by omega))); (try (have i_xlp35_2 := Imp.go xlp35_2 (by omega))); (try (have i_t8 := Imp.go t8 (by omega))); first | omega | ((try (have i_t8 := Imp.go t8 (by omega))); (try (have i_xlp35_2 := Imp.go xlp35_2 (by omega))); (try (have i_xlp35_3 := Imp.go xlp35_3 (by omega))); (try (have i_t75 := Imp.go t75 (by omega))); omega)))) w2136 w2138 w111 w172 w2139 rfl rfl hdV_yX12_emit ⟨(by show 0 + 1 ≤ 10 * dd + 12; (first | exact om_fdd9c7754232 | omega)), (by show 8 + (4 + 11) + (0) ≤ 300 * dd + 380; (first | exact om_87d12ca50388 | omega))⟩ rfl hl.1 rfl (Nat.le_of_ble_eq_true rfl) dX12_sum_57 ⟨Nat.le_of_ble_eq_true rfl, Nat.le_of_ble_eq_true rfl⟩) hP hD hK hS hA (fun z101 u102 H locs w103 hP hD hK hS => ?_)
                    obtain ⟨V107, L108⟩ := u102
                    obtain ⟨hMV107, ajV107, axL108, rgz101, t104, t105, t106⟩ := w103
                    have axL108 : L85 = L108 := Eq.symm axL108
                    subst axL108
                    have hP : va_P D vwCl (mw ad kk ks.1 V107 L85) H := hP
                    have hD : va_D A (mw ad kk ks.1 V107 L85) := hD
                    have hMV107 : rgd bM V107 := hMV107
                    have ajV107 : agr [(0, 48)] [45, 46, 47] V84 V107 := ajV107
                    have agV107 : agr [(0, 7), (0, 8), (0, 48), (0, 50)] [35, 36, 37, 38, 45, 46, 47] V V107 := agV84.tr ajV107 (by decide) (by decide)
                    have rgz101 : 0 ≤ z101.toInt ∧ z101.toInt ≤ 20000 := rgz101
                    have t104 : (V107 0 48).toInt = (V84 0 48).toInt + 1 := t104
                    have t105 : z101.toInt = (V84 0 49).toInt + (V84 0 48).toInt := t105
                    have t106 : emitted V84 V107 (pA V84) 6 0 0 := t106
                    have r109 : 0 ≤ ((V107 0 48)).toInt ∧ ((V107 0 48)).toInt ≤ 10000 := hMV107 0 48
                    have pq110 : (V84 0 49).toInt = ((V 0 49)).toInt := congrArg Int32.toInt ((ajV84 0 49 rfl).trans ((up2_k hV61 (by decide)).trans ((ajV32 0 49 rfl).trans (ajV17 0 49 rfl))))
                    have r111 : 0 ≤ ((V 0 49)).toInt ∧ ((V 0 49)).toInt ≤ 10000 := hMV 0 49
                    have hr112 : ∀ k, Rc gT (Crun gs (Isum gd :: k)) (Crun (emS sx90 6 0 0) (IsumR gd :: k)) := fun k => Rc.go1 (hr96 k) (m_em 6)
                    have rl113 : RelM V107 L85 bq gn gT sx90 gl := RelM.ag rl92 (show agr [(0, 48)] [45, 46, 47] V84 V107 from (agr.tr agr.rf ajV107 (by decide) (by decide))) (by decide) (show agL [] L85 L85 from agL.rf) (by decide)
                    have rl114 : RelM V107 L85 bq gn gT (emS sx90 6 0 0) gl := RelM.em rl113
                    have ps115 : (emS sx90 6 0 0).1 0 = sx90.1 0 := rfl
                    have fz116 := RelM.rg rl114
                    have pq117 : (V107 0 8).toInt = ((V84 0 8)).toInt := congrArg Int32.toInt (ajV107 0 8 rfl)
                    have pq118 : (V107 0 7).toInt = ((V84 0 7)).toInt := congrArg Int32.toInt (ajV107 0 7 rfl)
                    have cd119 : CDm V107 (10000 * bq) (emS sx90 6 0 0) := CDm.e0 cd95 t104 (ajV107 0 49 rfl) t106 (by decide) (by decide) (by decide) (by decide)
                    refine lv_istore_n (lv' := [(2, .int z101), (1, .int 6), (0, .ref (ad 0))]) hx hb dX12_sum_60 rfl hl (by decide) rfl (fun ls hl => ?_)
                    refine lv_goto (tgt := 4) hx hb dX12_sum_61 (by decide) ?_
                    have pq120 : (V107 0 50).toInt = ((V84 0 50)).toInt := congrArg Int32.toInt (ajV107 0 50 rfl)
                    have rw121 : RoV 35 bq V V107 := (fun k hk => ((ajV107 35 k rfl).trans ((t80 k hk).trans ((up2_o hV61 (by decide)).trans (xlp35_7 k hk)))))
                    have rw122 : RoV 37 bq V V107 := (fun k hk => ((ajV107 37 k rfl).trans ((t81 k hk).trans ((up2_o hV61 (by decide)).trans (xlp35_8 k hk)))))
                    have rw123 : RoL 36 20 bq L L85 := (fun k hk => ((t82 k hk).trans (xlp35_9 k hk)))
                    have rw124 : RoL 38 20 bq L L85 := (fun k hk => ((t83 k hk).trans (xlp35_10 k hk)))
                    exact ihlp35 (g34 - 1) V107 L85 H locs ls (Or.inl ⟨W0 rl114, (emS sx90 6 0 0), hr112, rl114, keepS.le (keepS.tr (keepS.tr (keepS.tr (keepS.tr (keepS.rf : keepS gs 0 gs) kq) (keepS.n1 1)) kp93) (show keepS sx90 0 (emS sx90 6 0 0) from keepS.em)) (by decide), (keepE.tr (keepE.tr (keepE.tr (keepE.tr (keepE.rf : keepE gs gs) eq9) (show keepE s1 (nx s1 1) from keepE.eq (show ∀ j9, 5 ≤ j9 → (nx s1 1).2.1 j9 = s1.2.1 j9 from fun _ _ => rfl))) ke94) (show keepE sx90 (emS sx90 6 0 0) from keepE.em)), cd119⟩) (show 0 ≤ (g34 - 1) from by first | omega | ((try (have i_t75 := Imp.go t75 (by omega))); (try (have i_xlp35_3 := Imp.go xlp35_3 (by omega))); (try (have i_xlp35_2 := Imp.go xlp35_2 (by omega))); (try (have i_t8 := Imp.go t8 (by omega))); first | omega | ((try (have i_t8 := Imp.go t8 (by omega))); (try (have i_xlp35_2 := Imp.go xlp35_2 (by omega))); (try (have i_xlp35_3 := Imp.go xlp35_3 (by omega))); (try (have i_t75 := Imp.go t75 (by omega))); omega))) (Imp.mk (fun hp => have hp : (V107 0 8).toInt = 0 := hp; (show (gn : Int) - (V107 0 7).toInt < (g34 - 1) from by first | exact om_67d12583fe7d hz60 pq67 t78 pq118 ((Imp.go xlp35_2 ((pq66.symm).trans (fz65.2.2.1)))) ((Imp.go t75 ((pq117.symm).trans (hp)))) | first | omega | ((try (have i_t75 := Imp.go t75 ((pq117.symm).trans (hp)))); omega) | ((try (have i_t75 := Imp.go t75 (by omega))); (try (have i_xlp35_3 := Imp.go xlp35_3 (by omega))); (try (have i_xlp35_2 := Imp.go xlp35_2 (by omega))); (try (have i_t8 := Imp.go t8 (by omega))); first | omega | ((try (have i_t8 := Imp.go t8 (by omega))); (try (have i_xlp35_2 := Imp.go xlp35_2 (by omega))); (try (have i_xlp35_3 := Imp.go xlp35_3 (by omega))); (try (have i_t75 := Imp.go t75 (by omega))); omega))))) (Imp.mk (fun hp => have hp : (V107 0 8).toInt = 0 := hp; (show (V107 0 48).toInt - (V 0 48).toInt ≤ 2 * ((V107 0 7).toInt - (V 0 7).toInt) from by first | exact om_24ed42d66743 hz60 pq67 pq68 t104 pq118 ((Imp.go xlp35_3 ((pq66.symm).trans (fz65.2.2.1)))) ((Imp.go t75 ((pq117.symm).trans (hp)))) | first | omega | ((try (have i_t75 := Imp.go t75 ((pq117.symm).trans (hp)))); omega) | ((try (have i_t75 := Imp.go t75 (by omega))); (try (have i_xlp35_3 := Imp.go xlp35_3 (by omega))); (try (have i_xlp35_2 := Imp.go xlp35_2 (by omega))); (try (have i_t8 := Imp.go t8 (by omega))); first | omega | ((try (have i_t8 := Imp.go t8 (by omega))); (try (have i_xlp35_2 := Imp.go xlp35_2 (by omega))); (try (have i_xlp35_3 := Imp.go xlp35_3 (by omega))); (try (have i_t75 := Imp.go t75 (by omega))); omega))))) (show (V107 0 48).toInt ≤ 8050 - 6 * (V 0 50).toInt from by first | exact om_c0d8f85437fe xlp35_5 pq69 t76 t104 | first | omega | ((try (have i_t75 := Imp.go t75 (by omega))); (try (have i_xlp35_3 := Imp.go xlp35_3 (by omega))); (try (have i_xlp35_2 := Imp.go xlp35_2 (by omega))); (try (have i_t8 := Imp.go t8 (by omega))); first | omega | ((try (have i_t8 := Imp.go t8 (by omega))); (try (have i_xlp35_2 := Imp.go xlp35_2 (by omega))); (try (have i_xlp35_3 := Imp.go xlp35_3 (by omega))); (try (have i_t75 := Imp.go t75 (by omega))); omega))) (show (V107 0 50).toInt = (V 0 50).toInt from by first | exact om_354a89fdc05f xlp35_5 pq69 t77 pq120 | first | omega | ((try (have i_t75 := Imp.go t75 (by omega))); (try (have i_xlp35_3 := Imp.go xlp35_3 (by omega))); (try (have i_xlp35_2 := Imp.go xlp35_2 (by omega))); (try (have i_t8 := Imp.go t8 (by omega))); first | omega | ((try (have i_t8 := Imp.go t8 (by omega))); (try (have i_xlp35_2 := Imp.go xlp35_2 (by omega))); (try (have i_xlp35_3 := Imp.go xlp35_3 (by omega))); (try (have i_t75 := Imp.go t75 (by omega))); omega))) (show (V 0 48).toInt ≤ (V107 0 48).toInt from by first | exact om_f68890bd9a1b xlp35_6 pq68 t78 t104 | first | omega | ((try (have i_t75 := Imp.go t75 (by omega))); (try (have i_xlp35_3 := Imp.go xlp35_3 (by omega))); (try (have i_xlp35_2 := Imp.go xlp35_2 (by omega))); (try (have i_t8 := Imp.go t8 (by omega))); first | omega | ((try (have i_t8 := Imp.go t8 (by omega))); (try (have i_xlp35_2 := Imp.go xlp35_2 (by omega))); (try (have i_xlp35_3 := Imp.go xlp35_3 (by omega))); (try (have i_t75 := Imp.go t75 (by omega))); omega))) rw121 rw122 rw123 rw124 (by first | exact om_5922346f4861 hn | first | omega | ((try (have i_t75 := Imp.go t75 (by omega))); (try (have i_xlp35_3 := Imp.go xlp35_3 (by omega))); (try (have i_xlp35_2 := Imp.go xlp35_2 (by omega))); (try (have i_t8 := Imp.go t8 (by omega))); first | omega | ((try (have i_t8 := Imp.go t8 (by omega))); (try (have i_xlp35_2 := Imp.go xlp35_2 (by omega))); (try (have i_xlp35_3 := Imp.go xlp35_3 (by omega))); (try (have i_t75 := Imp.go t75 (by omega))); omega))) alL85 (agr.tr (agr.tr (agr.up (agr.tr agr.rf ajV32 (by decide) (by decide)) hV61 rfl) ajV84 (by decide) (by decide)) ajV107 (by decide) (by decide)) hMV107 hP hD hS (lv_sub hl [2] rfl)
                  · skip
                    have hb125 : ∀ k, Rc gT (Crun gs (Isum gd :: k)) (Cbad (V84 0 8).toInt) := fun k => (hr62 k).tr (h91 (Iem 6 :: IsumR gd :: k))
                    refine lv_aload_n hx hb dX12_sum_53 rfl (lv_at hl 1 rfl) ?_
                    refine lv_iload_n hx hb dX12_sum_54 rfl (lv_at hl 0 rfl) ?_
                    refine lv_iconst (v := 0) hx hb dX12_sum_55 (by decide) ?_
                    refine lv_iconst (v := 0) hx hb dX12_sum_56 (by decide) ?_
                    have r126 : Int32.toInt 6 = 6 := by decide
                    have r127 : Int32.toInt 0 = 0 := by decide
                    refine gA_int (gA_runV (As := [.int 6, .int 0, .int 0]) (rest := []) (ci := 12) (q0 := 0) hx hb hml hown hg hP hD hK hS hA hnw hgk (s_emit3 l D ks H.size ad kk V84 L85 6 0 0 hMV84 (show (V84 0 48).toInt ≤ 9999 from by first | exact om_474d9bc6967f r2.1 xlp35_5 pq69 t76 | first | omega | ((try (have i_t75 := Imp.go t75 (by omega))); (try (have i_xlp35_3 := Imp.go xlp35_3 (by omega))); (try (have i_xlp35_2 := Imp.go xlp35_2 (by omega))); (try (have i_t8 := Imp.go t8 (by omega))); first | omega | ((try (have i_t8 := Imp.go t8 (by omega))); (try (have i_xlp35_2 := Imp.go xlp35_2 (by omega))); (try (have i_xlp35_3 := Imp.go xlp35_3 (by omega))); (try (have i_t75 := Imp.go t75 (by omega))); omega)))) w2136 w2138 w111 w172 w2139 rfl rfl hdV_yX12_emit ⟨(by show 0 + 1 ≤ 10 * dd + 12; (first | exact om_fdd9c7754232 | omega)), (by show 8 + (4 + 11) + (0) ≤ 300 * dd + 380; (first | exact om_87d12ca50388 | omega))⟩ rfl hl.1 rfl (Nat.le_of_ble_eq_true rfl) dX12_sum_57 ⟨Nat.le_of_ble_eq_true rfl, Nat.le_of_ble_eq_true rfl⟩) hP hD hK hS hA (fun z128 u129 H locs w130 hP hD hK hS => ?_)
                    obtain ⟨V134, L135⟩ := u129
                    obtain ⟨hMV134, ajV134, axL135, rgz128, t131, t132, t133⟩ := w130
                    have axL135 : L85 = L135 := Eq.symm axL135
                    subst axL135
                    have hP : va_P D vwCl (mw ad kk ks.1 V134 L85) H := hP
                    have hD : va_D A (mw ad kk ks.1 V134 L85) := hD
                    have hMV134 : rgd bM V134 := hMV134
                    have ajV134 : agr [(0, 48)] [45, 46, 47] V84 V134 := ajV134
                    have agV134 : agr [(0, 7), (0, 8), (0, 48), (0, 50)] [35, 36, 37, 38, 45, 46, 47] V V134 := agV84.tr ajV134 (by decide) (by decide)
                    have rgz128 : 0 ≤ z128.toInt ∧ z128.toInt ≤ 20000 := rgz128
                    have t131 : (V134 0 48).toInt = (V84 0 48).toInt + 1 := t131
                    have t132 : z128.toInt = (V84 0 49).toInt + (V84 0 48).toInt := t132
                    have t133 : emitted V84 V134 (pA V84) 6 0 0 := t133
                    have r136 : 0 ≤ ((V134 0 48)).toInt ∧ ((V134 0 48)).toInt ≤ 10000 := hMV134 0 48
                    have pq137 : (V84 0 49).toInt = ((V 0 49)).toInt := congrArg Int32.toInt ((ajV84 0 49 rfl).trans ((up2_k hV61 (by decide)).trans ((ajV32 0 49 rfl).trans (ajV17 0 49 rfl))))
                    have r138 : 0 ≤ ((V 0 49)).toInt ∧ ((V 0 49)).toInt ≤ 10000 := hMV 0 49
                    refine lv_istore_n (lv' := [(2, .int z128), (1, .int 6), (0, .ref (ad 0))]) hx hb dX12_sum_60 rfl hl (by decide) rfl (fun ls hl => ?_)
                    refine lv_goto (tgt := 4) hx hb dX12_sum_61 (by decide) ?_
                    have pq139 : (V134 0 7).toInt = ((V84 0 7)).toInt := congrArg Int32.toInt (ajV134 0 7 rfl)
                    have pq140 : (V134 0 8).toInt = ((V84 0 8)).toInt := congrArg Int32.toInt (ajV134 0 8 rfl)
                    have pq141 : (V134 0 50).toInt = ((V84 0 50)).toInt := congrArg Int32.toInt (ajV134 0 50 rfl)
                    have rw142 : RoV 35 bq V V134 := (fun k hk => ((ajV134 35 k rfl).trans ((t80 k hk).trans ((up2_o hV61 (by decide)).trans (xlp35_7 k hk)))))
                    have rw143 : RoV 37 bq V V134 := (fun k hk => ((ajV134 37 k rfl).trans ((t81 k hk).trans ((up2_o hV61 (by decide)).trans (xlp35_8 k hk)))))
                    have rw144 : RoL 36 20 bq L L85 := (fun k hk => ((t82 k hk).trans (xlp35_9 k hk)))
                    have rw145 : RoL 38 20 bq L L85 := (fun k hk => ((t83 k hk).trans (xlp35_10 k hk)))
                    exact ihlp35 (g34 - 1) V134 L85 H locs ls (Or.inr ⟨(show 1 ≤ (V134 0 8).toInt from by omega), (fun k => by rw [show (V134 0 8).toInt = (V84 0 8).toInt from by omega]; exact hb125 k)⟩) (show 0 ≤ (g34 - 1) from by first | omega | ((try (have i_t75 := Imp.go t75 (by omega))); (try (have i_xlp35_3 := Imp.go xlp35_3 (by omega))); (try (have i_xlp35_2 := Imp.go xlp35_2 (by omega))); (try (have i_t8 := Imp.go t8 (by omega))); first | omega | ((try (have i_t8 := Imp.go t8 (by omega))); (try (have i_xlp35_2 := Imp.go xlp35_2 (by omega))); (try (have i_xlp35_3 := Imp.go xlp35_3 (by omega))); (try (have i_t75 := Imp.go t75 (by omega))); omega))) (Imp.mk (fun hp => have hp : (V134 0 8).toInt = 0 := hp; (show (gn : Int) - (V134 0 7).toInt < (g34 - 1) from by first | exact om_67d12583fe7d hz60 pq67 t78 pq139 ((Imp.go xlp35_2 ((pq66.symm).trans (fz65.2.2.1)))) ((Imp.go t75 ((pq140.symm).trans (hp)))) | first | omega | ((try (have i_t75 := Imp.go t75 ((pq140.symm).trans (hp)))); omega) | ((try (have i_t75 := Imp.go t75 (by omega))); (try (have i_xlp35_3 := Imp.go xlp35_3 (by omega))); (try (have i_xlp35_2 := Imp.go xlp35_2 (by omega))); (try (have i_t8 := Imp.go t8 (by omega))); first | omega | ((try (have i_t8 := Imp.go t8 (by omega))); (try (have i_xlp35_2 := Imp.go xlp35_2 (by omega))); (try (have i_xlp35_3 := Imp.go xlp35_3 (by omega))); (try (have i_t75 := Imp.go t75 (by omega))); omega))))) (Imp.mk (fun hp => have hp : (V134 0 8).toInt = 0 := hp; (show (V134 0 48).toInt - (V 0 48).toInt ≤ 2 * ((V134 0 7).toInt - (V 0 7).toInt) from by first | exact om_24ed42d66743 hz60 pq67 pq68 t131 pq139 ((Imp.go xlp35_3 ((pq66.symm).trans (fz65.2.2.1)))) ((Imp.go t75 ((pq140.symm).trans (hp)))) | first | omega | ((try (have i_t75 := Imp.go t75 ((pq140.symm).trans (hp)))); omega) | ((try (have i_t75 := Imp.go t75 (by omega))); (try (have i_xlp35_3 := Imp.go xlp35_3 (by omega))); (try (have i_xlp35_2 := Imp.go xlp35_2 (by omega))); (try (have i_t8 := Imp.go t8 (by omega))); first | omega | ((try (have i_t8 := Imp.go t8 (by omega))); (try (have i_xlp35_2 := Imp.go xlp35_2 (by omega))); (try (have i_xlp35_3 := Imp.go xlp35_3 (by omega))); (try (have i_t75 := Imp.go t75 (by omega))); omega))))) (show (V134 0 48).toInt ≤ 8050 - 6 * (V 0 50).toInt from by first | exact om_c0d8f85437fe xlp35_5 pq69 t76 t131 | first | omega | ((try (have i_t75 := Imp.go t75 (by omega))); (try (have i_xlp35_3 := Imp.go xlp35_3 (by omega))); (try (have i_xlp35_2 := Imp.go xlp35_2 (by omega))); (try (have i_t8 := Imp.go t8 (by omega))); first | omega | ((try (have i_t8 := Imp.go t8 (by omega))); (try (have i_xlp35_2 := Imp.go xlp35_2 (by omega))); (try (have i_xlp35_3 := Imp.go xlp35_3 (by omega))); (try (have i_t75 := Imp.go t75 (by omega))); omega))) (show (V134 0 50).toInt = (V 0 50).toInt from by first | exact om_354a89fdc05f xlp35_5 pq69 t77 pq141 | first | omega | ((try (have i_t75 := Imp.go t75 (by omega))); (try (have i_xlp35_3 := Imp.go xlp35_3 (by omega))); (try (have i_xlp35_2 := Imp.go xlp35_2 (by omega))); (try (have i_t8 := Imp.go t8 (by omega))); first | omega | ((try (have i_t8 := Imp.go t8 (by omega))); (try (have i_xlp35_2 := Imp.go xlp35_2 (by omega))); (try (have i_xlp35_3 := Imp.go xlp35_3 (by omega))); (try (have i_t75 := Imp.go t75 (by omega))); omega))) (show (V 0 48).toInt ≤ (V134 0 48).toInt from by first | exact om_f68890bd9a1b xlp35_6 pq68 t78 t131 | first | omega | ((try (have i_t75 := Imp.go t75 (by omega))); (try (have i_xlp35_3 := Imp.go xlp35_3 (by omega))); (try (have i_xlp35_2 := Imp.go xlp35_2 (by omega))); (try (have i_t8 := Imp.go t8 (by omega))); first | omega | ((try (have i_t8 := Imp.go t8 (by omega))); (try (have i_xlp35_2 := Imp.go xlp35_2 (by omega))); (try (have i_xlp35_3 := Imp.go xlp35_3 (by omega))); (try (have i_t75 := Imp.go t75 (by omega))); omega))) rw142 rw143 rw144 rw145 (by first | exact om_5922346f4861 hn | first | omega | ((try (have i_t75 := Imp.go t75 (by omega))); (try (have i_xlp35_3 := Imp.go xlp35_3 (by omega))); (try (have i_xlp35_2 := Imp.go xlp35_2 (by omega))); (try (have i_t8 := Imp.go t8 (by omega))); first | omega | ((try (have i_t8 := Imp.go t8 (by omega))); (try (have i_xlp35_2 := Imp.go xlp35_2 (by omega))); (try (have i_xlp35_3 := Imp.go xlp35_3 (by omega))); (try (have i_t75 := Imp.go t75 (by omega))); omega))) alL85 (agr.tr (agr.tr (agr.up (agr.tr agr.rf ajV32 (by decide) (by decide)) hV61 rfl) ajV84 (by decide) (by decide)) ajV134 (by decide) (by decide)) hMV134 hP hD hS (lv_sub hl [2] rfl)
              · skip
                have kd146 : gT.1 (s1.1 0) ≠ 43 := fun h9 => h55 (h9.trans (by decide))
                exact absurd kd47 kd146
            · skip
              have f147 : z41.toInt = 0 := b_eq rfl (by decide) c48
              exfalso; first | exact om_495ee03a60ae q45 f147 | first | omega | ((try (have i_xlp35_3 := Imp.go xlp35_3 (by omega))); (try (have i_xlp35_2 := Imp.go xlp35_2 (by omega))); (try (have i_t8 := Imp.go t8 (by omega))); (try (have i_t8 := Imp.go t8 (by omega))); (try (have i_xlp35_2 := Imp.go xlp35_2 (by omega))); (try (have i_xlp35_3 := Imp.go xlp35_3 (by omega))); omega)
          · skip
            have kd148 : gT.1 (s1.1 0) ≠ 43 := fun h9 => h46 (h9.trans (by decide))
            refine lv_if_ne (tgt := 22) hx hb dX12_sum_10 (by decide) (fun c149 => ?_) (fun c149 => ?_)
            · skip
              have f150 : z41.toInt ≠ 0 := b_neq rfl (by decide) c149
              exfalso; first | exact om_fb320d7600b7 rgz41.1 q45 f150 | first | omega | ((try (have i_xlp35_3 := Imp.go xlp35_3 (by omega))); (try (have i_xlp35_2 := Imp.go xlp35_2 (by omega))); (try (have i_t8 := Imp.go t8 (by omega))); (try (have i_t8 := Imp.go t8 (by omega))); (try (have i_xlp35_2 := Imp.go xlp35_2 (by omega))); (try (have i_xlp35_3 := Imp.go xlp35_3 (by omega))); omega)
            · skip
              have f151 : z41.toInt = 0 := b_eq rfl (by decide) c149
              refine lv_aload_n hx hb dX12_sum_13 rfl (lv_at hl 0 rfl) ?_
              refine lv_bipush (v := 45) hx hb dX12_sum_14 (by decide) ?_
              have r152 : Int32.toInt 45 = 45 := by decide
              refine gA_int (gA_runV (As := [.int 45]) (rest := []) (ci := 12) (q0 := 0) hx hb hml hown hg hP hD hK hS hA hnw hgk (s_isSignA l D ks H.size ad kk V32 L33 45 (bq) (gn) (gT) (s1) (gl) hMV32 rq (sg_yes (j := 45) (by decide) (by decide) (by decide))) w2071 w2073 w95 w172 w2074 rfl rfl hdV_yX12_isSign ⟨(by show 0 + 1 ≤ 10 * dd + 12; (first | exact om_fdd9c7754232 | omega)), (by show 8 + (2 + 11) + (0) ≤ 300 * dd + 380; (first | exact om_1d76971512b8 | omega))⟩ rfl hl.1 rfl (Nat.le_of_ble_eq_true rfl) dX12_sum_16 ⟨Nat.le_of_ble_eq_true rfl, Nat.le_of_ble_eq_true rfl⟩) hP hD hK hS hA (fun z153 u154 H locs w155 hP hD hK hS => ?_)
              obtain ⟨rgz153, t156⟩ := w155
              have rgz153 : 0 ≤ z153.toInt ∧ z153.toInt ≤ 1 := rgz153
              have t156 : (z153.toInt = 1 ∧ (gT).1 ((s1).1 0) = (Int32.toInt 45)) ∨ (z153.toInt = 0 ∧ (gT).1 ((s1).1 0) ≠ (Int32.toInt 45)) := t156
              rcases t156 with ⟨q157, h158⟩ | ⟨q157, h158⟩
              · skip
                have kd159 : gT.1 (s1.1 0) = 45 := h158.trans (by decide)
                refine lv_if_eq (tgt := 64) hx hb dX12_sum_19 (by decide) (fun c160 => ?_) (fun c160 => ?_)
                · skip
                  have f161 : z153.toInt = 0 := b_eq rfl (by decide) c160
                  exfalso; first | exact om_495ee03a60ae q157 f161 | first | omega | ((try (have i_xlp35_3 := Imp.go xlp35_3 (by omega))); (try (have i_xlp35_2 := Imp.go xlp35_2 (by omega))); (try (have i_t8 := Imp.go t8 (by omega))); (try (have i_t8 := Imp.go t8 (by omega))); (try (have i_xlp35_2 := Imp.go xlp35_2 (by omega))); (try (have i_xlp35_3 := Imp.go xlp35_3 (by omega))); omega)
                · skip
                  have f162 : z153.toInt ≠ 0 := b_neq rfl (by decide) c160
                  refine lv_aload_n hx hb dX12_sum_22 rfl (lv_at hl 0 rfl) ?_
                  refine lv_bipush (v := 43) hx hb dX12_sum_23 (by decide) ?_
                  refine gA_int (gA_runV (As := [.int 43]) (rest := []) (ci := 12) (q0 := 0) hx hb hml hown hg hP hD hK hS hA hnw hgk (s_isSignA l D ks H.size ad kk V32 L33 43 (bq) (gn) (gT) (s1) (gl) hMV32 rq (sg_yes (j := 43) (by decide) (by decide) (by decide))) w2071 w2073 w95 w172 w2074 rfl rfl hdV_yX12_isSign ⟨(by show 0 + 1 ≤ 10 * dd + 12; (first | exact om_fdd9c7754232 | omega)), (by show 8 + (2 + 11) + (0) ≤ 300 * dd + 380; (first | exact om_1d76971512b8 | omega))⟩ rfl hl.1 rfl (Nat.le_of_ble_eq_true rfl) dX12_sum_25 ⟨Nat.le_of_ble_eq_true rfl, Nat.le_of_ble_eq_true rfl⟩) hP hD hK hS hA (fun z163 u164 H locs w165 hP hD hK hS => ?_)
                  obtain ⟨rgz163, t166⟩ := w165
                  have rgz163 : 0 ≤ z163.toInt ∧ z163.toInt ≤ 1 := rgz163
                  have t166 : (z163.toInt = 1 ∧ (gT).1 ((s1).1 0) = (Int32.toInt 43)) ∨ (z163.toInt = 0 ∧ (gT).1 ((s1).1 0) ≠ (Int32.toInt 43)) := t166
                  rcases t166 with ⟨q167, h168⟩ | ⟨q167, h168⟩
                  · skip
                    have kd169 : gT.1 (s1.1 0) = 43 := h168.trans (by decide)
                    exact absurd (kd159.symm.trans kd169) (by decide)
                  · skip
                    have kd170 : gT.1 (s1.1 0) ≠ 43 := fun h9 => h168 (h9.trans (by decide))
                    refine lv_if_eq (tgt := 36) hx hb dX12_sum_28 (by decide) (fun c171 => ?_) (fun c171 => ?_)
                    · skip
                      have f172 : z163.toInt = 0 := b_eq rfl (by decide) c171
                      refine lv_bipush (v := 7) hx hb dX12_sum_36 (by decide) ?_
                      refine lv_istore_n (lv' := [(1, .int 7), (0, .ref (ad 0))]) hx hb dX12_sum_38 rfl hl (by decide) rfl (fun ls hl => ?_)
                      refine lv_aload_n hx hb dX12_sum_39 rfl (lv_at hl 1 rfl) ?_
                      refine lv_dup hx hb dX12_sum_40 rfl ?_
                      refine va_get (D := D) (ci := 12) (v := .int (V32 0 7)) (C := RX12) (T := TX12) (N := 100) hx hb hg inX12 hown hK hP 0 rfl rfl 7 (by decide) (hg _ w1713) (fun _ h9 => h9) rfl dX12_sum_41 ?_
                      refine lv_iconst (v := 1) hx hb dX12_sum_44 (by decide) ?_
                      refine lv_iadd hx hb dX12_sum_45 ?_
                      refine lv_topi (fun z173 ez173 => ?_)
                      have hz173 : z173.toInt = ((V32 0 7)).toInt + 1 := i_add ez173 rfl (by decide) (by omega)
                      refine va_put (D := D) (ci := 12) (v := .int z173) (ty := tyX12 7) (C := RX12) (T := TX12) (N := 100) hx hb hg inX12 tyX12 tyX12_ok nmX12 hown hK hP hD hS 0 rfl rfl 7 (by decide) (hg _ w1713) (fun _ h9 => h9) rfl (tyX12_ok 7 (by decide)) rfl rfl (Nat.le_of_ble_eq_true rfl) dX12_sum_46 (fun H locs hP hD hS => ?_)
                      obtain ⟨V174, hV174⟩ : ∃ z, z = up2 V32 0 7 z173 := ⟨_, rfl⟩
                      have hP : va_P D vwCl (mw ad kk ks.1 V174 L33) H := by rw [hV174]; exact hP
                      have hD : va_D A (mw ad kk ks.1 V174 L33) := by rw [hV174]; exact hD
                      have hMV174 : rgd bM V174 := hMV32.put hV174 (i_full _)
                      have agV174 : agr [(0, 7), (0, 8), (0, 48), (0, 50)] [35, 36, 37, 38, 45, 46, 47] V V174 := agV32.up hV174 rfl
                      have hr175 : ∀ k, Rc gT (Crun gs (Isum gd :: k)) (Crun (nx s1 1) (Iprod gd :: Iem 7 :: IsumR gd :: k)) := fun k => Rc.go1 (hq k) (sumR_45 gd kd159)
                      have rl176 : RelM V174 L33 bq gn gT (nx s1 1) gl := RelM.n1 rq hV174 (by (first | exact om_55c67efb91e5 hz173 | omega)) (by rw [kd159]; decide)
                      have ps177 : (nx s1 1).1 0 = s1.1 0 + 1 := rfl
                      have fz178 := RelM.rg rl176
                      have pq179 : (V174 0 8).toInt = ((V32 0 8)).toInt := congrArg Int32.toInt (up2_k hV174 (by decide))
                      have pq180 : (V174 0 7).toInt = z173.toInt := congrArg Int32.toInt (up2_s hV174)
                      refine lv_aload_n hx hb dX12_sum_49 rfl (lv_at hl 1 rfl) ?_
                      have pq181 : (V174 0 48).toInt = ((V32 0 48)).toInt := congrArg Int32.toInt (up2_k hV174 (by decide))
                      have pq182 : (V174 0 50).toInt = ((V32 0 50)).toInt := congrArg Int32.toInt (up2_k hV174 (by decide))
                      have cd183 : CDm V174 (10000 * bq) s1 := CDm.ag dq9 (show agr [(0, 7)] [] V32 V174 from (agr.up agr.rf hV174 rfl)) ⟨rfl, rfl, fun _ => ⟨rfl, rfl, rfl⟩⟩
                      have cd184 : CDm V174 (10000 * bq) (nx s1 1) := CDm.mv cd183 (show ∀ j9, j9 = 5 ∨ 2000 ≤ j9 → (nx s1 1).2.1 j9 = s1.2.1 j9 from fun j9 h9 => (show ∀ j9, 5 ≤ j9 → (nx s1 1).2.1 j9 = s1.2.1 j9 from fun _ _ => rfl) j9 (by omega))
                      refine gA_void (gA_runV (As := []) (rest := []) (ci := 12) (q0 := 0) hx hb hml hown hg hP hD hK hS hA hnw hgk (hk_s_productA H.size ad kk V174 L33 (bq) (gn) (gT) ((nx s1 1)) (gl) (gd) hMV174 rl176 (show (V174 0 48).toInt ≤ 2 * (V174 0 7).toInt from by first | exact om_a28408d17a52 c1 hz173 pq180 pq181 ((Imp.go xlp35_3 ((pq179.symm).trans (fz178.2.2.1)))) | first | omega | ((try (have i_xlp35_3 := Imp.go xlp35_3 (by omega))); (try (have i_xlp35_2 := Imp.go xlp35_2 (by omega))); (try (have i_t8 := Imp.go t8 (by omega))); (try (have i_t8 := Imp.go t8 (by omega))); (try (have i_xlp35_2 := Imp.go xlp35_2 (by omega))); (try (have i_xlp35_3 := Imp.go xlp35_3 (by omega))); omega)) (show (V174 0 50).toInt = ((gd) : Int) from by first | exact om_047d18a7ea93 yd xlp35_5 pq182 | first | omega | ((try (have i_xlp35_3 := Imp.go xlp35_3 (by omega))); (try (have i_xlp35_2 := Imp.go xlp35_2 (by omega))); (try (have i_t8 := Imp.go t8 (by omega))); (try (have i_t8 := Imp.go t8 (by omega))); (try (have i_xlp35_2 := Imp.go xlp35_2 (by omega))); (try (have i_xlp35_3 := Imp.go xlp35_3 (by omega))); omega)) (show (V174 0 50).toInt + (dd : Int) = 8 from by first | exact om_cf161be9456d c4 xlp35_5 pq182 | first | omega | ((try (have i_xlp35_3 := Imp.go xlp35_3 (by omega))); (try (have i_xlp35_2 := Imp.go xlp35_2 (by omega))); (try (have i_t8 := Imp.go t8 (by omega))); (try (have i_t8 := Imp.go t8 (by omega))); (try (have i_xlp35_2 := Imp.go xlp35_2 (by omega))); (try (have i_xlp35_3 := Imp.go xlp35_3 (by omega))); omega)) (EM.mv em ((up2_k hV174 (by decide)).trans ((ajV32 0 51 rfl).trans (ajV17 0 51 rfl))) ((up2_k hV174 (by decide)).trans ((ajV32 0 52 rfl).trans (ajV17 0 52 rfl))) (by rw [(up2_fo hV174 (by decide) : V174 27 = V32 27), (funext (fun q => ajV32 27 q rfl) : V32 27 = V17 27), (funext (fun q => ajV17 27 q rfl) : V17 27 = V 27)] : V174 27 = V 27) ((keepS.tr (keepS.tr (keepS.rf : keepS gs 0 gs) kq) (keepS.n1 1))).2.1) cd184) w2124 w2126 w108 w172 w2127 rfl rfl hdV_yX12_product ⟨(by show 10 * dd + 11 + 1 ≤ 10 * dd + 12; (first | exact om_05e50ff0fdfa | omega)), (by show 8 + (2 + 11) + (300 * dd + 340) ≤ 300 * dd + 380; (first | exact om_8190647da377 | omega))⟩ rfl hl.1 rfl (Nat.le_of_ble_eq_true rfl) dX12_sum_50 ⟨Nat.le_of_ble_eq_true rfl, Nat.le_of_ble_eq_true rfl⟩) hP hD hK hS hA (fun u186 H locs w187 hP hD hK hS => ?_)
                      obtain ⟨V197, L198⟩ := u186
                      obtain ⟨hMV197, ajV197, axL198, t188, t189, t190, t191, t192, t193, t194, t195, t196⟩ := w187
                      have alL198 : agL [35, 36, 37, 38, 45, 46, 47] L L198 := agL.tr alL33 axL198 (by decide)
                      have hP : va_P D vwCl (mw ad kk ks.1 V197 L198) H := hP
                      have hD : va_D A (mw ad kk ks.1 V197 L198) := hD
                      have hMV197 : rgd bM V197 := hMV197
                      have ajV197 : agr [(0, 7), (0, 8), (0, 48), (0, 50)] [35, 36, 37, 38, 45, 46, 47] V174 V197 := ajV197
                      have agV197 : agr [(0, 7), (0, 8), (0, 48), (0, 50)] [35, 36, 37, 38, 45, 46, 47] V V197 := agV174.tr ajV197 (by decide) (by decide)
                      have t188 : Imp ((V197 0 8).toInt = 0) ((V197 0 48).toInt - (V174 0 48).toInt ≤ 2 * ((V197 0 7).toInt - (V174 0 7).toInt)) := t188
                      have t189 : (V197 0 48).toInt ≤ 8049 - 6 * (V174 0 50).toInt := t189
                      have t190 : (V197 0 50).toInt = (V174 0 50).toInt := t190
                      have t191 : (V174 0 48).toInt ≤ (V197 0 48).toInt := t191
                      have t192 : RdM (gT) ((nx s1 1)) (fun k => Iprod (gd) :: k) (fun k => k) (V197 0 8).toInt (fun s9 => RelM V197 L198 (bq) (gn) (gT) s9 (gl) ∧ keepS ((nx s1 1)) 1 s9 ∧ keepE ((nx s1 1)) s9 ∧ CDm V197 (10000 * (bq)) s9) := t192
                      have t193 : RoV 35 (bq) V174 V197 := t193
                      have t194 : RoV 37 (bq) V174 V197 := t194
                      have t195 : RoL 36 20 (bq) L33 L198 := t195
                      have t196 : RoL 38 20 (bq) L33 L198 := t196
                      have r199 : 0 ≤ ((V197 0 48)).toInt ∧ ((V197 0 48)).toInt ≤ 10000 := hMV197 0 48
                      have r200 : 0 ≤ ((V197 0 8)).toInt ∧ ((V197 0 8)).toInt ≤ 70000 := hMV197 0 8
                      have r201 : 0 ≤ ((V197 0 50)).toInt ∧ ((V197 0 50)).toInt ≤ 9 := hMV197 0 50
                      rcases t192 with ⟨q202, sx203, h204, rl205, kp206, ke207, cd208⟩ | ⟨q202, h204⟩
                      · skip
                        have hr209 : ∀ k, Rc gT (Crun gs (Isum gd :: k)) (Crun sx203 (Iem 7 :: IsumR gd :: k)) := fun k => (hr175 k).tr (h204 (Iem 7 :: IsumR gd :: k))
                        have fz210 := RelM.rg rl205
                        have ps211 := (kp206).1
                        refine lv_aload_n hx hb dX12_sum_53 rfl (lv_at hl 1 rfl) ?_
                        refine lv_iload_n hx hb dX12_sum_54 rfl (lv_at hl 0 rfl) ?_
                        refine lv_iconst (v := 0) hx hb dX12_sum_55 (by decide) ?_
                        refine lv_iconst (v := 0) hx hb dX12_sum_56 (by decide) ?_
                        have r212 : Int32.toInt 7 = 7 := by decide
                        have r213 : Int32.toInt 0 = 0 := by decide
                        refine gA_int (gA_runV (As := [.int 7, .int 0, .int 0]) (rest := []) (ci := 12) (q0 := 0) hx hb hml hown hg hP hD hK hS hA hnw hgk (s_emit3 l D ks H.size ad kk V197 L198 7 0 0 hMV197 (show (V197 0 48).toInt ≤ 9999 from by first | exact om_474d9bc6967f r2.1 xlp35_5 pq182 t189 | first | omega | ((try (have i_t188 := Imp.go t188 (by omega))); (try (have i_xlp35_3 := Imp.go xlp35_3 (by omega))); (try (have i_xlp35_2 := Imp.go xlp35_2 (by omega))); (try (have i_t8 := Imp.go t8 (by omega))); first | omega | ((try (have i_t8 := Imp.go t8 (by omega))); (try (have i_xlp35_2 := Imp.go xlp35_2 (by omega))); (try (have i_xlp35_3 := Imp.go xlp35_3 (by omega))); (try (have i_t188 := Imp.go t188 (by omega))); omega)))) w2136 w2138 w111 w172 w2139 rfl rfl hdV_yX12_emit ⟨(by show 0 + 1 ≤ 10 * dd + 12; (first | exact om_fdd9c7754232 | omega)), (by show 8 + (4 + 11) + (0) ≤ 300 * dd + 380; (first | exact om_87d12ca50388 | omega))⟩ rfl hl.1 rfl (Nat.le_of_ble_eq_true rfl) dX12_sum_57 ⟨Nat.le_of_ble_eq_true rfl, Nat.le_of_ble_eq_true rfl⟩) hP hD hK hS hA (fun z214 u215 H locs w216 hP hD hK hS => ?_)
                        obtain ⟨V220, L221⟩ := u215
                        obtain ⟨hMV220, ajV220, axL221, rgz214, t217, t218, t219⟩ := w216
                        have axL221 : L198 = L221 := Eq.symm axL221
                        subst axL221
                        have hP : va_P D vwCl (mw ad kk ks.1 V220 L198) H := hP
                        have hD : va_D A (mw ad kk ks.1 V220 L198) := hD
                        have hMV220 : rgd bM V220 := hMV220
                        have ajV220 : agr [(0, 48)] [45, 46, 47] V197 V220 := ajV220
                        have agV220 : agr [(0, 7), (0, 8), (0, 48), (0, 50)] [35, 36, 37, 38, 45, 46, 47] V V220 := agV197.tr ajV220 (by decide) (by decide)
                        have rgz214 : 0 ≤ z214.toInt ∧ z214.toInt ≤ 20000 := rgz214
                        have t217 : (V220 0 48).toInt = (V197 0 48).toInt + 1 := t217
                        have t218 : z214.toInt = (V197 0 49).toInt + (V197 0 48).toInt := t218
                        have t219 : emitted V197 V220 (pA V197) 7 0 0 := t219
                        have r222 : 0 ≤ ((V220 0 48)).toInt ∧ ((V220 0 48)).toInt ≤ 10000 := hMV220 0 48
                        have pq223 : (V197 0 49).toInt = ((V 0 49)).toInt := congrArg Int32.toInt ((ajV197 0 49 rfl).trans ((up2_k hV174 (by decide)).trans ((ajV32 0 49 rfl).trans (ajV17 0 49 rfl))))
                        have r224 : 0 ≤ ((V 0 49)).toInt ∧ ((V 0 49)).toInt ≤ 10000 := hMV 0 49
                        have hr225 : ∀ k, Rc gT (Crun gs (Isum gd :: k)) (Crun (emS sx203 7 0 0) (IsumR gd :: k)) := fun k => Rc.go1 (hr209 k) (m_em 7)
                        have rl226 : RelM V220 L198 bq gn gT sx203 gl := RelM.ag rl205 (show agr [(0, 48)] [45, 46, 47] V197 V220 from (agr.tr agr.rf ajV220 (by decide) (by decide))) (by decide) (show agL [] L198 L198 from agL.rf) (by decide)
                        have rl227 : RelM V220 L198 bq gn gT (emS sx203 7 0 0) gl := RelM.em rl226
                        have ps228 : (emS sx203 7 0 0).1 0 = sx203.1 0 := rfl
                        have fz229 := RelM.rg rl227
                        have pq230 : (V220 0 8).toInt = ((V197 0 8)).toInt := congrArg Int32.toInt (ajV220 0 8 rfl)
                        have pq231 : (V220 0 7).toInt = ((V197 0 7)).toInt := congrArg Int32.toInt (ajV220 0 7 rfl)
                        have cd232 : CDm V220 (10000 * bq) (emS sx203 7 0 0) := CDm.e0 cd208 t217 (ajV220 0 49 rfl) t219 (by decide) (by decide) (by decide) (by decide)
                        refine lv_istore_n (lv' := [(2, .int z214), (1, .int 7), (0, .ref (ad 0))]) hx hb dX12_sum_60 rfl hl (by decide) rfl (fun ls hl => ?_)
                        refine lv_goto (tgt := 4) hx hb dX12_sum_61 (by decide) ?_
                        have pq233 : (V220 0 50).toInt = ((V197 0 50)).toInt := congrArg Int32.toInt (ajV220 0 50 rfl)
                        have rw234 : RoV 35 bq V V220 := (fun k hk => ((ajV220 35 k rfl).trans ((t193 k hk).trans ((up2_o hV174 (by decide)).trans (xlp35_7 k hk)))))
                        have rw235 : RoV 37 bq V V220 := (fun k hk => ((ajV220 37 k rfl).trans ((t194 k hk).trans ((up2_o hV174 (by decide)).trans (xlp35_8 k hk)))))
                        have rw236 : RoL 36 20 bq L L198 := (fun k hk => ((t195 k hk).trans (xlp35_9 k hk)))
                        have rw237 : RoL 38 20 bq L L198 := (fun k hk => ((t196 k hk).trans (xlp35_10 k hk)))
                        exact ihlp35 (g34 - 1) V220 L198 H locs ls (Or.inl ⟨W0 rl227, (emS sx203 7 0 0), hr225, rl227, keepS.le (keepS.tr (keepS.tr (keepS.tr (keepS.tr (keepS.rf : keepS gs 0 gs) kq) (keepS.n1 1)) kp206) (show keepS sx203 0 (emS sx203 7 0 0) from keepS.em)) (by decide), (keepE.tr (keepE.tr (keepE.tr (keepE.tr (keepE.rf : keepE gs gs) eq9) (show keepE s1 (nx s1 1) from keepE.eq (show ∀ j9, 5 ≤ j9 → (nx s1 1).2.1 j9 = s1.2.1 j9 from fun _ _ => rfl))) ke207) (show keepE sx203 (emS sx203 7 0 0) from keepE.em)), cd232⟩) (show 0 ≤ (g34 - 1) from by first | omega | ((try (have i_t188 := Imp.go t188 (by omega))); (try (have i_xlp35_3 := Imp.go xlp35_3 (by omega))); (try (have i_xlp35_2 := Imp.go xlp35_2 (by omega))); (try (have i_t8 := Imp.go t8 (by omega))); first | omega | ((try (have i_t8 := Imp.go t8 (by omega))); (try (have i_xlp35_2 := Imp.go xlp35_2 (by omega))); (try (have i_xlp35_3 := Imp.go xlp35_3 (by omega))); (try (have i_t188 := Imp.go t188 (by omega))); omega))) (Imp.mk (fun hp => have hp : (V220 0 8).toInt = 0 := hp; (show (gn : Int) - (V220 0 7).toInt < (g34 - 1) from by first | exact om_67d12583fe7d hz173 pq180 t191 pq231 ((Imp.go xlp35_2 ((pq179.symm).trans (fz178.2.2.1)))) ((Imp.go t188 ((pq230.symm).trans (hp)))) | first | omega | ((try (have i_t188 := Imp.go t188 ((pq230.symm).trans (hp)))); omega) | ((try (have i_t188 := Imp.go t188 (by omega))); (try (have i_xlp35_3 := Imp.go xlp35_3 (by omega))); (try (have i_xlp35_2 := Imp.go xlp35_2 (by omega))); (try (have i_t8 := Imp.go t8 (by omega))); first | omega | ((try (have i_t8 := Imp.go t8 (by omega))); (try (have i_xlp35_2 := Imp.go xlp35_2 (by omega))); (try (have i_xlp35_3 := Imp.go xlp35_3 (by omega))); (try (have i_t188 := Imp.go t188 (by omega))); omega))))) (Imp.mk (fun hp => have hp : (V220 0 8).toInt = 0 := hp; (show (V220 0 48).toInt - (V 0 48).toInt ≤ 2 * ((V220 0 7).toInt - (V 0 7).toInt) from by first | exact om_24ed42d66743 hz173 pq180 pq181 t217 pq231 ((Imp.go xlp35_3 ((pq179.symm).trans (fz178.2.2.1)))) ((Imp.go t188 ((pq230.symm).trans (hp)))) | first | omega | ((try (have i_t188 := Imp.go t188 ((pq230.symm).trans (hp)))); omega) | ((try (have i_t188 := Imp.go t188 (by omega))); (try (have i_xlp35_3 := Imp.go xlp35_3 (by omega))); (try (have i_xlp35_2 := Imp.go xlp35_2 (by omega))); (try (have i_t8 := Imp.go t8 (by omega))); first | omega | ((try (have i_t8 := Imp.go t8 (by omega))); (try (have i_xlp35_2 := Imp.go xlp35_2 (by omega))); (try (have i_xlp35_3 := Imp.go xlp35_3 (by omega))); (try (have i_t188 := Imp.go t188 (by omega))); omega))))) (show (V220 0 48).toInt ≤ 8050 - 6 * (V 0 50).toInt from by first | exact om_c0d8f85437fe xlp35_5 pq182 t189 t217 | first | omega | ((try (have i_t188 := Imp.go t188 (by omega))); (try (have i_xlp35_3 := Imp.go xlp35_3 (by omega))); (try (have i_xlp35_2 := Imp.go xlp35_2 (by omega))); (try (have i_t8 := Imp.go t8 (by omega))); first | omega | ((try (have i_t8 := Imp.go t8 (by omega))); (try (have i_xlp35_2 := Imp.go xlp35_2 (by omega))); (try (have i_xlp35_3 := Imp.go xlp35_3 (by omega))); (try (have i_t188 := Imp.go t188 (by omega))); omega))) (show (V220 0 50).toInt = (V 0 50).toInt from by first | exact om_354a89fdc05f xlp35_5 pq182 t190 pq233 | first | omega | ((try (have i_t188 := Imp.go t188 (by omega))); (try (have i_xlp35_3 := Imp.go xlp35_3 (by omega))); (try (have i_xlp35_2 := Imp.go xlp35_2 (by omega))); (try (have i_t8 := Imp.go t8 (by omega))); first | omega | ((try (have i_t8 := Imp.go t8 (by omega))); (try (have i_xlp35_2 := Imp.go xlp35_2 (by omega))); (try (have i_xlp35_3 := Imp.go xlp35_3 (by omega))); (try (have i_t188 := Imp.go t188 (by omega))); omega))) (show (V 0 48).toInt ≤ (V220 0 48).toInt from by first | exact om_f68890bd9a1b xlp35_6 pq181 t191 t217 | first | omega | ((try (have i_t188 := Imp.go t188 (by omega))); (try (have i_xlp35_3 := Imp.go xlp35_3 (by omega))); (try (have i_xlp35_2 := Imp.go xlp35_2 (by omega))); (try (have i_t8 := Imp.go t8 (by omega))); first | omega | ((try (have i_t8 := Imp.go t8 (by omega))); (try (have i_xlp35_2 := Imp.go xlp35_2 (by omega))); (try (have i_xlp35_3 := Imp.go xlp35_3 (by omega))); (try (have i_t188 := Imp.go t188 (by omega))); omega))) rw234 rw235 rw236 rw237 (by first | exact om_5922346f4861 hn | first | omega | ((try (have i_t188 := Imp.go t188 (by omega))); (try (have i_xlp35_3 := Imp.go xlp35_3 (by omega))); (try (have i_xlp35_2 := Imp.go xlp35_2 (by omega))); (try (have i_t8 := Imp.go t8 (by omega))); first | omega | ((try (have i_t8 := Imp.go t8 (by omega))); (try (have i_xlp35_2 := Imp.go xlp35_2 (by omega))); (try (have i_xlp35_3 := Imp.go xlp35_3 (by omega))); (try (have i_t188 := Imp.go t188 (by omega))); omega))) alL198 (agr.tr (agr.tr (agr.up (agr.tr agr.rf ajV32 (by decide) (by decide)) hV174 rfl) ajV197 (by decide) (by decide)) ajV220 (by decide) (by decide)) hMV220 hP hD hS (lv_sub hl [2] rfl)
                      · skip
                        have hb238 : ∀ k, Rc gT (Crun gs (Isum gd :: k)) (Cbad (V197 0 8).toInt) := fun k => (hr175 k).tr (h204 (Iem 7 :: IsumR gd :: k))
                        refine lv_aload_n hx hb dX12_sum_53 rfl (lv_at hl 1 rfl) ?_
                        refine lv_iload_n hx hb dX12_sum_54 rfl (lv_at hl 0 rfl) ?_
                        refine lv_iconst (v := 0) hx hb dX12_sum_55 (by decide) ?_
                        refine lv_iconst (v := 0) hx hb dX12_sum_56 (by decide) ?_
                        have r239 : Int32.toInt 7 = 7 := by decide
                        have r240 : Int32.toInt 0 = 0 := by decide
                        refine gA_int (gA_runV (As := [.int 7, .int 0, .int 0]) (rest := []) (ci := 12) (q0 := 0) hx hb hml hown hg hP hD hK hS hA hnw hgk (s_emit3 l D ks H.size ad kk V197 L198 7 0 0 hMV197 (show (V197 0 48).toInt ≤ 9999 from by first | exact om_474d9bc6967f r2.1 xlp35_5 pq182 t189 | first | omega | ((try (have i_t188 := Imp.go t188 (by omega))); (try (have i_xlp35_3 := Imp.go xlp35_3 (by omega))); (try (have i_xlp35_2 := Imp.go xlp35_2 (by omega))); (try (have i_t8 := Imp.go t8 (by omega))); first | omega | ((try (have i_t8 := Imp.go t8 (by omega))); (try (have i_xlp35_2 := Imp.go xlp35_2 (by omega))); (try (have i_xlp35_3 := Imp.go xlp35_3 (by omega))); (try (have i_t188 := Imp.go t188 (by omega))); omega)))) w2136 w2138 w111 w172 w2139 rfl rfl hdV_yX12_emit ⟨(by show 0 + 1 ≤ 10 * dd + 12; (first | exact om_fdd9c7754232 | omega)), (by show 8 + (4 + 11) + (0) ≤ 300 * dd + 380; (first | exact om_87d12ca50388 | omega))⟩ rfl hl.1 rfl (Nat.le_of_ble_eq_true rfl) dX12_sum_57 ⟨Nat.le_of_ble_eq_true rfl, Nat.le_of_ble_eq_true rfl⟩) hP hD hK hS hA (fun z241 u242 H locs w243 hP hD hK hS => ?_)
                        obtain ⟨V247, L248⟩ := u242
                        obtain ⟨hMV247, ajV247, axL248, rgz241, t244, t245, t246⟩ := w243
                        have axL248 : L198 = L248 := Eq.symm axL248
                        subst axL248
                        have hP : va_P D vwCl (mw ad kk ks.1 V247 L198) H := hP
                        have hD : va_D A (mw ad kk ks.1 V247 L198) := hD
                        have hMV247 : rgd bM V247 := hMV247
                        have ajV247 : agr [(0, 48)] [45, 46, 47] V197 V247 := ajV247
                        have agV247 : agr [(0, 7), (0, 8), (0, 48), (0, 50)] [35, 36, 37, 38, 45, 46, 47] V V247 := agV197.tr ajV247 (by decide) (by decide)
                        have rgz241 : 0 ≤ z241.toInt ∧ z241.toInt ≤ 20000 := rgz241
                        have t244 : (V247 0 48).toInt = (V197 0 48).toInt + 1 := t244
                        have t245 : z241.toInt = (V197 0 49).toInt + (V197 0 48).toInt := t245
                        have t246 : emitted V197 V247 (pA V197) 7 0 0 := t246
                        have r249 : 0 ≤ ((V247 0 48)).toInt ∧ ((V247 0 48)).toInt ≤ 10000 := hMV247 0 48
                        have pq250 : (V197 0 49).toInt = ((V 0 49)).toInt := congrArg Int32.toInt ((ajV197 0 49 rfl).trans ((up2_k hV174 (by decide)).trans ((ajV32 0 49 rfl).trans (ajV17 0 49 rfl))))
                        have r251 : 0 ≤ ((V 0 49)).toInt ∧ ((V 0 49)).toInt ≤ 10000 := hMV 0 49
                        refine lv_istore_n (lv' := [(2, .int z241), (1, .int 7), (0, .ref (ad 0))]) hx hb dX12_sum_60 rfl hl (by decide) rfl (fun ls hl => ?_)
                        refine lv_goto (tgt := 4) hx hb dX12_sum_61 (by decide) ?_
                        have pq252 : (V247 0 7).toInt = ((V197 0 7)).toInt := congrArg Int32.toInt (ajV247 0 7 rfl)
                        have pq253 : (V247 0 8).toInt = ((V197 0 8)).toInt := congrArg Int32.toInt (ajV247 0 8 rfl)
                        have pq254 : (V247 0 50).toInt = ((V197 0 50)).toInt := congrArg Int32.toInt (ajV247 0 50 rfl)
                        have rw255 : RoV 35 bq V V247 := (fun k hk => ((ajV247 35 k rfl).trans ((t193 k hk).trans ((up2_o hV174 (by decide)).trans (xlp35_7 k hk)))))
                        have rw256 : RoV 37 bq V V247 := (fun k hk => ((ajV247 37 k rfl).trans ((t194 k hk).trans ((up2_o hV174 (by decide)).trans (xlp35_8 k hk)))))
                        have rw257 : RoL 36 20 bq L L198 := (fun k hk => ((t195 k hk).trans (xlp35_9 k hk)))
                        have rw258 : RoL 38 20 bq L L198 := (fun k hk => ((t196 k hk).trans (xlp35_10 k hk)))
                        exact ihlp35 (g34 - 1) V247 L198 H locs ls (Or.inr ⟨(show 1 ≤ (V247 0 8).toInt from by omega), (fun k => by rw [show (V247 0 8).toInt = (V197 0 8).toInt from by omega]; exact hb238 k)⟩) (show 0 ≤ (g34 - 1) from by first | omega | ((try (have i_t188 := Imp.go t188 (by omega))); (try (have i_xlp35_3 := Imp.go xlp35_3 (by omega))); (try (have i_xlp35_2 := Imp.go xlp35_2 (by omega))); (try (have i_t8 := Imp.go t8 (by omega))); first | omega | ((try (have i_t8 := Imp.go t8 (by omega))); (try (have i_xlp35_2 := Imp.go xlp35_2 (by omega))); (try (have i_xlp35_3 := Imp.go xlp35_3 (by omega))); (try (have i_t188 := Imp.go t188 (by omega))); omega))) (Imp.mk (fun hp => have hp : (V247 0 8).toInt = 0 := hp; (show (gn : Int) - (V247 0 7).toInt < (g34 - 1) from by first | exact om_67d12583fe7d hz173 pq180 t191 pq252 ((Imp.go xlp35_2 ((pq179.symm).trans (fz178.2.2.1)))) ((Imp.go t188 ((pq253.symm).trans (hp)))) | first | omega | ((try (have i_t188 := Imp.go t188 ((pq253.symm).trans (hp)))); omega) | ((try (have i_t188 := Imp.go t188 (by omega))); (try (have i_xlp35_3 := Imp.go xlp35_3 (by omega))); (try (have i_xlp35_2 := Imp.go xlp35_2 (by omega))); (try (have i_t8 := Imp.go t8 (by omega))); first | omega | ((try (have i_t8 := Imp.go t8 (by omega))); (try (have i_xlp35_2 := Imp.go xlp35_2 (by omega))); (try (have i_xlp35_3 := Imp.go xlp35_3 (by omega))); (try (have i_t188 := Imp.go t188 (by omega))); omega))))) (Imp.mk (fun hp => have hp : (V247 0 8).toInt = 0 := hp; (show (V247 0 48).toInt - (V 0 48).toInt ≤ 2 * ((V247 0 7).toInt - (V 0 7).toInt) from by first | exact om_24ed42d66743 hz173 pq180 pq181 t244 pq252 ((Imp.go xlp35_3 ((pq179.symm).trans (fz178.2.2.1)))) ((Imp.go t188 ((pq253.symm).trans (hp)))) | first | omega | ((try (have i_t188 := Imp.go t188 ((pq253.symm).trans (hp)))); omega) | ((try (have i_t188 := Imp.go t188 (by omega))); (try (have i_xlp35_3 := Imp.go xlp35_3 (by omega))); (try (have i_xlp35_2 := Imp.go xlp35_2 (by omega))); (try (have i_t8 := Imp.go t8 (by omega))); first | omega | ((try (have i_t8 := Imp.go t8 (by omega))); (try (have i_xlp35_2 := Imp.go xlp35_2 (by omega))); (try (have i_xlp35_3 := Imp.go xlp35_3 (by omega))); (try (have i_t188 := Imp.go t188 (by omega))); omega))))) (show (V247 0 48).toInt ≤ 8050 - 6 * (V 0 50).toInt from by first | exact om_c0d8f85437fe xlp35_5 pq182 t189 t244 | first | omega | ((try (have i_t188 := Imp.go t188 (by omega))); (try (have i_xlp35_3 := Imp.go xlp35_3 (by omega))); (try (have i_xlp35_2 := Imp.go xlp35_2 (by omega))); (try (have i_t8 := Imp.go t8 (by omega))); first | omega | ((try (have i_t8 := Imp.go t8 (by omega))); (try (have i_xlp35_2 := Imp.go xlp35_2 (by omega))); (try (have i_xlp35_3 := Imp.go xlp35_3 (by omega))); (try (have i_t188 := Imp.go t188 (by omega))); omega))) (show (V247 0 50).toInt = (V 0 50).toInt from by first | exact om_354a89fdc05f xlp35_5 pq182 t190 pq254 | first | omega | ((try (have i_t188 := Imp.go t188 (by omega))); (try (have i_xlp35_3 := Imp.go xlp35_3 (by omega))); (try (have i_xlp35_2 := Imp.go xlp35_2 (by omega))); (try (have i_t8 := Imp.go t8 (by omega))); first | omega | ((try (have i_t8 := Imp.go t8 (by omega))); (try (have i_xlp35_2 := Imp.go xlp35_2 (by omega))); (try (have i_xlp35_3 := Imp.go xlp35_3 (by omega))); (try (have i_t188 := Imp.go t188 (by omega))); omega))) (show (V 0 48).toInt ≤ (V247 0 48).toInt from by first | exact om_f68890bd9a1b xlp35_6 pq181 t191 t244 | first | omega | ((try (have i_t188 := Imp.go t188 (by omega))); (try (have i_xlp35_3 := Imp.go xlp35_3 (by omega))); (try (have i_xlp35_2 := Imp.go xlp35_2 (by omega))); (try (have i_t8 := Imp.go t8 (by omega))); first | omega | ((try (have i_t8 := Imp.go t8 (by omega))); (try (have i_xlp35_2 := Imp.go xlp35_2 (by omega))); (try (have i_xlp35_3 := Imp.go xlp35_3 (by omega))); (try (have i_t188 := Imp.go t188 (by omega))); omega))) rw255 rw256 rw257 rw258 (by first | exact om_5922346f4861 hn | first | omega | ((try (have i_t188 := Imp.go t188 (by omega))); (try (have i_xlp35_3 := Imp.go xlp35_3 (by omega))); (try (have i_xlp35_2 := Imp.go xlp35_2 (by omega))); (try (have i_t8 := Imp.go t8 (by omega))); first | omega | ((try (have i_t8 := Imp.go t8 (by omega))); (try (have i_xlp35_2 := Imp.go xlp35_2 (by omega))); (try (have i_xlp35_3 := Imp.go xlp35_3 (by omega))); (try (have i_t188 := Imp.go t188 (by omega))); omega))) alL198 (agr.tr (agr.tr (agr.up (agr.tr agr.rf ajV32 (by decide) (by decide)) hV174 rfl) ajV197 (by decide) (by decide)) ajV247 (by decide) (by decide)) hMV247 hP hD hS (lv_sub hl [2] rfl)
                    · skip
                      have f259 : z163.toInt ≠ 0 := b_neq rfl (by decide) c171
                      exfalso; first | exact om_fb320d7600b7 rgz163.1 q167 f259 | first | omega | ((try (have i_xlp35_3 := Imp.go xlp35_3 (by omega))); (try (have i_xlp35_2 := Imp.go xlp35_2 (by omega))); (try (have i_t8 := Imp.go t8 (by omega))); (try (have i_t8 := Imp.go t8 (by omega))); (try (have i_xlp35_2 := Imp.go xlp35_2 (by omega))); (try (have i_xlp35_3 := Imp.go xlp35_3 (by omega))); omega)
              · skip
                have kd260 : gT.1 (s1.1 0) ≠ 45 := fun h9 => h158 (h9.trans (by decide))
                refine lv_if_eq (tgt := 64) hx hb dX12_sum_19 (by decide) (fun c261 => ?_) (fun c261 => ?_)
                · skip
                  have f262 : z153.toInt = 0 := b_eq rfl (by decide) c261
                  have hr263 : ∀ k, Rc gT (Crun gs (Isum gd :: k)) (Crun s1 (k)) := fun k => Rc.go1 (hq k) (sumR_n gd kd148 kd260)
                  have rw264 : RoV 35 bq V V32 := (fun k hk => (xlp35_7 k hk))
                  have rw265 : RoV 37 bq V V32 := (fun k hk => (xlp35_8 k hk))
                  have rw266 : RoL 36 20 bq L L33 := (fun k hk => (xlp35_9 k hk))
                  have rw267 : RoL 38 20 bq L L33 := (fun k hk => (xlp35_10 k hk))
                  exact W.vret hx hb hr (fun t ht hW => ⟨⟨(V32, L33), rfl, ⟨hMV32, agV32, alL33, (Imp.mk (fun hp => have hp : (V32 0 8).toInt = 0 := hp; (show (V32 0 48).toInt - (V 0 48).toInt ≤ 2 * ((V32 0 7).toInt - (V 0 7).toInt) from by first | exact om_b91cb2530a91 ((Imp.go xlp35_3 (hp))) | first | omega | ((try (have i_xlp35_3 := Imp.go xlp35_3 (by omega))); (try (have i_xlp35_2 := Imp.go xlp35_2 (by omega))); (try (have i_t8 := Imp.go t8 (by omega))); (try (have i_t8 := Imp.go t8 (by omega))); (try (have i_xlp35_2 := Imp.go xlp35_2 (by omega))); (try (have i_xlp35_3 := Imp.go xlp35_3 (by omega))); omega)))), (show (V32 0 48).toInt ≤ 8050 - 6 * (V 0 50).toInt from by first | exact om_c3256b130b8f xlp35_4 | first | omega | ((try (have i_xlp35_3 := Imp.go xlp35_3 (by omega))); (try (have i_xlp35_2 := Imp.go xlp35_2 (by omega))); (try (have i_t8 := Imp.go t8 (by omega))); (try (have i_t8 := Imp.go t8 (by omega))); (try (have i_xlp35_2 := Imp.go xlp35_2 (by omega))); (try (have i_xlp35_3 := Imp.go xlp35_3 (by omega))); omega)), (show (V32 0 50).toInt = (V 0 50).toInt from by first | exact om_570b691c1130 xlp35_5 | first | omega | ((try (have i_xlp35_3 := Imp.go xlp35_3 (by omega))); (try (have i_xlp35_2 := Imp.go xlp35_2 (by omega))); (try (have i_t8 := Imp.go t8 (by omega))); (try (have i_t8 := Imp.go t8 (by omega))); (try (have i_xlp35_2 := Imp.go xlp35_2 (by omega))); (try (have i_xlp35_3 := Imp.go xlp35_3 (by omega))); omega)), (show (V 0 48).toInt ≤ (V32 0 48).toInt from by first | exact om_f4906d00fa52 xlp35_6 | first | omega | ((try (have i_xlp35_3 := Imp.go xlp35_3 (by omega))); (try (have i_xlp35_2 := Imp.go xlp35_2 (by omega))); (try (have i_t8 := Imp.go t8 (by omega))); (try (have i_t8 := Imp.go t8 (by omega))); (try (have i_xlp35_2 := Imp.go xlp35_2 (by omega))); (try (have i_xlp35_3 := Imp.go xlp35_3 (by omega))); omega)), (Or.inl ⟨W0 rq, s1, hr263, rq, keepS.le (keepS.tr (keepS.rf : keepS gs 0 gs) kq) (by decide), (keepE.tr (keepE.rf : keepE gs gs) eq9), dq9⟩), rw264, rw265, rw266, rw267⟩, by rw [ht]; exact hP, va_K.moved hW.alike hK, hD⟩, hS.F ht⟩) hS.2.2 dX12_sum_64
                · skip
                  have f268 : z153.toInt ≠ 0 := b_neq rfl (by decide) c261
                  exfalso; first | exact om_fb320d7600b7 rgz153.1 q157 f268 | first | omega | ((try (have i_xlp35_3 := Imp.go xlp35_3 (by omega))); (try (have i_xlp35_2 := Imp.go xlp35_2 (by omega))); (try (have i_t8 := Imp.go t8 (by omega))); (try (have i_t8 := Imp.go t8 (by omega))); (try (have i_xlp35_2 := Imp.go xlp35_2 (by omega))); (try (have i_xlp35_3 := Imp.go xlp35_3 (by omega))); omega)
        · skip
          refine lv_bipush (v := 43) hx hb dX12_sum_5 (by decide) ?_
          have r269 : Int32.toInt 43 = 43 := by decide
          refine gA_int (gA_runV (As := [.int 43]) (rest := []) (ci := 12) (q0 := 0) hx hb hml hown hg hP hD hK hS hA hnw hgk (s_isSignB l D ks H.size ad kk V32 L33 43 hMV32 (show 1 ≤ (V32 0 8).toInt from by first | exact om_f8d8213eda45 f8 | first | omega | ((try (have i_xlp35_3 := Imp.go xlp35_3 (by omega))); (try (have i_xlp35_2 := Imp.go xlp35_2 (by omega))); (try (have i_t8 := Imp.go t8 (by omega))); (try (have i_t8 := Imp.go t8 (by omega))); (try (have i_xlp35_2 := Imp.go xlp35_2 (by omega))); (try (have i_xlp35_3 := Imp.go xlp35_3 (by omega))); omega))) w2071 w2073 w95 w172 w2074 rfl rfl hdV_yX12_isSign ⟨(by show 0 + 1 ≤ 10 * dd + 12; (first | exact om_fdd9c7754232 | omega)), (by show 8 + (2 + 11) + (0) ≤ 300 * dd + 380; (first | exact om_1d76971512b8 | omega))⟩ rfl hl.1 rfl (Nat.le_of_ble_eq_true rfl) dX12_sum_7 ⟨Nat.le_of_ble_eq_true rfl, Nat.le_of_ble_eq_true rfl⟩) hP hD hK hS hA (fun z270 u271 H locs w272 hP hD hK hS => ?_)
          have rgz270 := w272
          have rgz270 : 0 ≤ z270.toInt ∧ z270.toInt ≤ 0 := rgz270
          refine lv_if_ne (tgt := 22) hx hb dX12_sum_10 (by decide) (fun c273 => ?_) (fun c273 => ?_)
          · skip
            have f274 : z270.toInt ≠ 0 := b_neq rfl (by decide) c273
            exfalso; first | exact om_0e608cc4b4f6 rgz270.1 rgz270.2 f274 | first | omega | ((try (have i_xlp35_3 := Imp.go xlp35_3 (by omega))); (try (have i_xlp35_2 := Imp.go xlp35_2 (by omega))); (try (have i_t8 := Imp.go t8 (by omega))); (try (have i_t8 := Imp.go t8 (by omega))); (try (have i_xlp35_2 := Imp.go xlp35_2 (by omega))); (try (have i_xlp35_3 := Imp.go xlp35_3 (by omega))); omega)
          · skip
            have f275 : z270.toInt = 0 := b_eq rfl (by decide) c273
            refine lv_aload_n hx hb dX12_sum_13 rfl (lv_at hl 0 rfl) ?_
            refine lv_bipush (v := 45) hx hb dX12_sum_14 (by decide) ?_
            have r276 : Int32.toInt 45 = 45 := by decide
            refine gA_int (gA_runV (As := [.int 45]) (rest := []) (ci := 12) (q0 := 0) hx hb hml hown hg hP hD hK hS hA hnw hgk (s_isSignB l D ks H.size ad kk V32 L33 45 hMV32 (show 1 ≤ (V32 0 8).toInt from by first | exact om_f8d8213eda45 f8 | first | omega | ((try (have i_xlp35_3 := Imp.go xlp35_3 (by omega))); (try (have i_xlp35_2 := Imp.go xlp35_2 (by omega))); (try (have i_t8 := Imp.go t8 (by omega))); (try (have i_t8 := Imp.go t8 (by omega))); (try (have i_xlp35_2 := Imp.go xlp35_2 (by omega))); (try (have i_xlp35_3 := Imp.go xlp35_3 (by omega))); omega))) w2071 w2073 w95 w172 w2074 rfl rfl hdV_yX12_isSign ⟨(by show 0 + 1 ≤ 10 * dd + 12; (first | exact om_fdd9c7754232 | omega)), (by show 8 + (2 + 11) + (0) ≤ 300 * dd + 380; (first | exact om_1d76971512b8 | omega))⟩ rfl hl.1 rfl (Nat.le_of_ble_eq_true rfl) dX12_sum_16 ⟨Nat.le_of_ble_eq_true rfl, Nat.le_of_ble_eq_true rfl⟩) hP hD hK hS hA (fun z277 u278 H locs w279 hP hD hK hS => ?_)
            have rgz277 := w279
            have rgz277 : 0 ≤ z277.toInt ∧ z277.toInt ≤ 0 := rgz277
            refine lv_if_eq (tgt := 64) hx hb dX12_sum_19 (by decide) (fun c280 => ?_) (fun c280 => ?_)
            · skip
              have f281 : z277.toInt = 0 := b_eq rfl (by decide) c280
              have rw282 : RoV 35 bq V V32 := (fun k hk => (xlp35_7 k hk))
              have rw283 : RoV 37 bq V V32 := (fun k hk => (xlp35_8 k hk))
              have rw284 : RoL 36 20 bq L L33 := (fun k hk => (xlp35_9 k hk))
              have rw285 : RoL 38 20 bq L L33 := (fun k hk => (xlp35_10 k hk))
              exact W.vret hx hb hr (fun t ht hW => ⟨⟨(V32, L33), rfl, ⟨hMV32, agV32, alL33, (Imp.mk (fun hp => have hp : (V32 0 8).toInt = 0 := hp; (show (V32 0 48).toInt - (V 0 48).toInt ≤ 2 * ((V32 0 7).toInt - (V 0 7).toInt) from by first | exact om_b91cb2530a91 ((Imp.go xlp35_3 (hp))) | first | omega | ((try (have i_xlp35_3 := Imp.go xlp35_3 (by omega))); (try (have i_xlp35_2 := Imp.go xlp35_2 (by omega))); (try (have i_t8 := Imp.go t8 (by omega))); (try (have i_t8 := Imp.go t8 (by omega))); (try (have i_xlp35_2 := Imp.go xlp35_2 (by omega))); (try (have i_xlp35_3 := Imp.go xlp35_3 (by omega))); omega)))), (show (V32 0 48).toInt ≤ 8050 - 6 * (V 0 50).toInt from by first | exact om_c3256b130b8f xlp35_4 | first | omega | ((try (have i_xlp35_3 := Imp.go xlp35_3 (by omega))); (try (have i_xlp35_2 := Imp.go xlp35_2 (by omega))); (try (have i_t8 := Imp.go t8 (by omega))); (try (have i_t8 := Imp.go t8 (by omega))); (try (have i_xlp35_2 := Imp.go xlp35_2 (by omega))); (try (have i_xlp35_3 := Imp.go xlp35_3 (by omega))); omega)), (show (V32 0 50).toInt = (V 0 50).toInt from by first | exact om_570b691c1130 xlp35_5 | first | omega | ((try (have i_xlp35_3 := Imp.go xlp35_3 (by omega))); (try (have i_xlp35_2 := Imp.go xlp35_2 (by omega))); (try (have i_t8 := Imp.go t8 (by omega))); (try (have i_t8 := Imp.go t8 (by omega))); (try (have i_xlp35_2 := Imp.go xlp35_2 (by omega))); (try (have i_xlp35_3 := Imp.go xlp35_3 (by omega))); omega)), (show (V 0 48).toInt ≤ (V32 0 48).toInt from by first | exact om_f4906d00fa52 xlp35_6 | first | omega | ((try (have i_xlp35_3 := Imp.go xlp35_3 (by omega))); (try (have i_xlp35_2 := Imp.go xlp35_2 (by omega))); (try (have i_t8 := Imp.go t8 (by omega))); (try (have i_t8 := Imp.go t8 (by omega))); (try (have i_xlp35_2 := Imp.go xlp35_2 (by omega))); (try (have i_xlp35_3 := Imp.go xlp35_3 (by omega))); omega)), (Or.inr ⟨(show 1 ≤ (V32 0 8).toInt from by (first | exact om_f8d8213eda45 f8 | omega)), hq⟩), rw282, rw283, rw284, rw285⟩, by rw [ht]; exact hP, va_K.moved hW.alike hK, hD⟩, hS.F ht⟩) hS.2.2 dX12_sum_64
            · skip
              have f286 : z277.toInt ≠ 0 := b_neq rfl (by decide) c280
              exfalso; first | exact om_0e608cc4b4f6 rgz277.1 rgz277.2 f286 | first | omega | ((try (have i_xlp35_3 := Imp.go xlp35_3 (by omega))); (try (have i_xlp35_2 := Imp.go xlp35_2 (by omega))); (try (have i_t8 := Imp.go t8 (by omega))); (try (have i_t8 := Imp.go t8 (by omega))); (try (have i_xlp35_2 := Imp.go xlp35_2 (by omega))); (try (have i_xlp35_3 := Imp.go xlp35_3 (by omega))); omega)
    have rw287 : RoV 35 bq V V17 := (fun k hk => ((t13 k hk).trans rfl))
    have rw288 : RoV 37 bq V V17 := (fun k hk => ((t14 k hk).trans rfl))
    have rw289 : RoL 36 20 bq L L18 := (fun k hk => ((t15 k hk).trans rfl))
    have rw290 : RoL 38 20 bq L L18 := (fun k hk => ((t16 k hk).trans rfl))
    exact lp35 ((((gn : Int) + 1) + 1 : Int).toNat) ((gn : Int) + 1) V17 L18 H locs ls (Or.inl ⟨W0 rl25, sx23, hr29, rl25, keepS.le (keepS.tr (keepS.rf : keepS gs 0 gs) kp26) (by decide), (keepE.tr (keepE.rf : keepE gs gs) ke27), cd28⟩) (show 0 ≤ ((gn : Int) + 1) from by first | exact om_484f1d066a6d | first | omega | ((try (have i_t8 := Imp.go t8 (by omega))); omega)) (Imp.mk (fun hp => have hp : (V17 0 8).toInt = 0 := hp; (show (gn : Int) - (V17 0 7).toInt < ((gn : Int) + 1) from by first | exact om_ea4f048937c3 c1 r19.1 ((Imp.go t8 (hp))) | first | omega | ((try (have i_t8 := Imp.go t8 (by omega))); omega)))) (Imp.mk (fun hp => have hp : (V17 0 8).toInt = 0 := hp; (show (V17 0 48).toInt - (V 0 48).toInt ≤ 2 * ((V17 0 7).toInt - (V 0 7).toInt) from by first | exact om_b91cb2530a91 ((Imp.go t8 (hp))) | first | omega | ((try (have i_t8 := Imp.go t8 (by omega))); omega)))) (show (V17 0 48).toInt ≤ 8050 - 6 * (V 0 50).toInt from by first | exact om_c28235b0523b t9 | first | omega | ((try (have i_t8 := Imp.go t8 (by omega))); omega)) (show (V17 0 50).toInt = (V 0 50).toInt from by first | exact om_570b691c1130 t10 | first | omega | ((try (have i_t8 := Imp.go t8 (by omega))); omega)) (show (V 0 48).toInt ≤ (V17 0 48).toInt from by first | exact om_f4906d00fa52 t11 | first | omega | ((try (have i_t8 := Imp.go t8 (by omega))); omega)) rw287 rw288 rw289 rw290 (by first | exact om_e44dd51abc87 | first | omega | ((try (have i_t8 := Imp.go t8 (by omega))); omega)) alL18 agr.rf hMV17 hP hD hS (lv_sub hl [0] rfl)
  · skip
    have hb291 : ∀ k, Rc gT (Crun gs (Isum gd :: k)) (Cbad (V17 0 8).toInt) := fun k => (hr4 k).tr (h24 (IsumR gd :: k))
    have lp295 : ∀ (fulp295 : Nat) (g294 : Int) (V292 : Vf) (L293 : Lf) (H : Heap) (locs : List Loc) (ls : Array Slot), (((V292 0 8).toInt = 0 ∧ ∃ s1 : St, (∀ k, Rc gT (Crun gs (Isum gd :: k)) (Crun s1 (IsumR gd :: k))) ∧ RelM V292 L293 bq gn gT s1 gl ∧ keepS gs 1 s1 ∧ keepE gs s1 ∧ CDm V292 (10000 * bq) s1) ∨ (1 ≤ (V292 0 8).toInt ∧ ∀ k, Rc gT (Crun gs (Isum gd :: k)) (Cbad (V292 0 8).toInt))) → 0 ≤ g294 → Imp ((V292 0 8).toInt = 0) ((gn : Int) - (V292 0 7).toInt < g294) → Imp ((V292 0 8).toInt = 0) ((V292 0 48).toInt - (V 0 48).toInt ≤ 2 * ((V292 0 7).toInt - (V 0 7).toInt)) → (V292 0 48).toInt ≤ 8050 - 6 * (V 0 50).toInt → (V292 0 50).toInt = (V 0 50).toInt → (V 0 48).toInt ≤ (V292 0 48).toInt → (RoV 35 bq V V292) → (RoV 37 bq V V292) → (RoL 36 20 bq L L293) → (RoL 38 20 bq L L293) → g294 < (fulp295 : Int) → agL [35, 36, 37, 38, 45, 46, 47] L L293 → agr [(0, 7), (0, 8), (0, 48), (0, 50)] [35, 36, 37, 38, 45, 46, 47] V17 V292 → rgd bM V292 → va_P D vwCl (mw ad kk ks.1 V292 L293) H → va_D A (mw ad kk ks.1 V292 L293) → va_S A s.heap H locs → lv_has ls 3 [(0, .ref (ad 0))] → W p l e (rK 12 380 dd) s m ([.ref (ad 0)] : List Value).toArray below meth c H locs 0 0 (MQ below (q_s_sumA D ks ad kk V L  bq gn gT gs gl gd A) ([.ref (ad 0)] : List Value).toArray s 0 0 A) (F0 m 4 ls []) := by
      intro fulp295
      induction fulp295 with
      | zero =>
        intro g294 V292 L293 H locs ls xlp295_0 xlp295_1 xlp295_2 xlp295_3 xlp295_4 xlp295_5 xlp295_6 xlp295_7 xlp295_8 xlp295_9 xlp295_10 hn alL293 ajV292 hMV292 hP hD hS hl
        exfalso; (first | exact om_21e89d3d06d7 xlp295_1 hn | omega)
      | succ fulp295 ihlp295 =>
        intro g294 V292 L293 H locs ls xlp295_0 xlp295_1 xlp295_2 xlp295_3 xlp295_4 xlp295_5 xlp295_6 xlp295_7 xlp295_8 xlp295_9 xlp295_10 hn alL293 ajV292 hMV292 hP hD hS hl
        have agV292 : agr [(0, 7), (0, 8), (0, 48), (0, 50)] [35, 36, 37, 38, 45, 46, 47] V V292 := agV17.tr ajV292 (by decide) (by decide)
        have r296 : 0 ≤ ((V292 0 8)).toInt ∧ ((V292 0 8)).toInt ≤ 70000 := hMV292 0 8
        have r297 : 0 ≤ ((V292 0 48)).toInt ∧ ((V292 0 48)).toInt ≤ 10000 := hMV292 0 48
        have r298 : 0 ≤ ((V292 0 50)).toInt ∧ ((V292 0 50)).toInt ≤ 9 := hMV292 0 50
        refine lv_aload_n hx hb dX12_sum_4 rfl (lv_at hl 0 rfl) ?_
        rcases xlp295_0 with ⟨f8, s1, hq, rq, kq, eq9, dq9⟩ | ⟨f8, hq⟩
        · skip
          have fz299 := RelM.rg rq
          refine lv_bipush (v := 43) hx hb dX12_sum_5 (by decide) ?_
          have r300 : Int32.toInt 43 = 43 := by decide
          refine gA_int (gA_runV (As := [.int 43]) (rest := []) (ci := 12) (q0 := 0) hx hb hml hown hg hP hD hK hS hA hnw hgk (s_isSignA l D ks H.size ad kk V292 L293 43 (bq) (gn) (gT) (s1) (gl) hMV292 rq (sg_yes (j := 43) (by decide) (by decide) (by decide))) w2071 w2073 w95 w172 w2074 rfl rfl hdV_yX12_isSign ⟨(by show 0 + 1 ≤ 10 * dd + 12; (first | exact om_fdd9c7754232 | omega)), (by show 8 + (2 + 11) + (0) ≤ 300 * dd + 380; (first | exact om_1d76971512b8 | omega))⟩ rfl hl.1 rfl (Nat.le_of_ble_eq_true rfl) dX12_sum_7 ⟨Nat.le_of_ble_eq_true rfl, Nat.le_of_ble_eq_true rfl⟩) hP hD hK hS hA (fun z301 u302 H locs w303 hP hD hK hS => ?_)
          obtain ⟨rgz301, t304⟩ := w303
          have rgz301 : 0 ≤ z301.toInt ∧ z301.toInt ≤ 1 := rgz301
          have t304 : (z301.toInt = 1 ∧ (gT).1 ((s1).1 0) = (Int32.toInt 43)) ∨ (z301.toInt = 0 ∧ (gT).1 ((s1).1 0) ≠ (Int32.toInt 43)) := t304
          rcases t304 with ⟨q305, h306⟩ | ⟨q305, h306⟩
          · skip
            have kd307 : gT.1 (s1.1 0) = 43 := h306.trans (by decide)
            refine lv_if_ne (tgt := 22) hx hb dX12_sum_10 (by decide) (fun c308 => ?_) (fun c308 => ?_)
            · skip
              have f309 : z301.toInt ≠ 0 := b_neq rfl (by decide) c308
              refine lv_aload_n hx hb dX12_sum_22 rfl (lv_at hl 0 rfl) ?_
              refine lv_bipush (v := 43) hx hb dX12_sum_23 (by decide) ?_
              refine gA_int (gA_runV (As := [.int 43]) (rest := []) (ci := 12) (q0 := 0) hx hb hml hown hg hP hD hK hS hA hnw hgk (s_isSignA l D ks H.size ad kk V292 L293 43 (bq) (gn) (gT) (s1) (gl) hMV292 rq (sg_yes (j := 43) (by decide) (by decide) (by decide))) w2071 w2073 w95 w172 w2074 rfl rfl hdV_yX12_isSign ⟨(by show 0 + 1 ≤ 10 * dd + 12; (first | exact om_fdd9c7754232 | omega)), (by show 8 + (2 + 11) + (0) ≤ 300 * dd + 380; (first | exact om_1d76971512b8 | omega))⟩ rfl hl.1 rfl (Nat.le_of_ble_eq_true rfl) dX12_sum_25 ⟨Nat.le_of_ble_eq_true rfl, Nat.le_of_ble_eq_true rfl⟩) hP hD hK hS hA (fun z310 u311 H locs w312 hP hD hK hS => ?_)
              obtain ⟨rgz310, t313⟩ := w312
              have rgz310 : 0 ≤ z310.toInt ∧ z310.toInt ≤ 1 := rgz310
              have t313 : (z310.toInt = 1 ∧ (gT).1 ((s1).1 0) = (Int32.toInt 43)) ∨ (z310.toInt = 0 ∧ (gT).1 ((s1).1 0) ≠ (Int32.toInt 43)) := t313
              rcases t313 with ⟨q314, h315⟩ | ⟨q314, h315⟩
              · skip
                have kd316 : gT.1 (s1.1 0) = 43 := h315.trans (by decide)
                refine lv_if_eq (tgt := 36) hx hb dX12_sum_28 (by decide) (fun c317 => ?_) (fun c317 => ?_)
                · skip
                  have f318 : z310.toInt = 0 := b_eq rfl (by decide) c317
                  exfalso; first | exact om_495ee03a60ae q314 f318 | first | omega | ((try (have i_xlp295_3 := Imp.go xlp295_3 (by omega))); (try (have i_xlp295_2 := Imp.go xlp295_2 (by omega))); (try (have i_t8 := Imp.go t8 (by omega))); (try (have i_t8 := Imp.go t8 (by omega))); (try (have i_xlp295_2 := Imp.go xlp295_2 (by omega))); (try (have i_xlp295_3 := Imp.go xlp295_3 (by omega))); omega)
                · skip
                  have f319 : z310.toInt ≠ 0 := b_neq rfl (by decide) c317
                  refine lv_bipush (v := 6) hx hb dX12_sum_31 (by decide) ?_
                  refine lv_goto (tgt := 38) hx hb dX12_sum_33 (by decide) ?_
                  refine lv_istore_n (lv' := [(1, .int 6), (0, .ref (ad 0))]) hx hb dX12_sum_38 rfl hl (by decide) rfl (fun ls hl => ?_)
                  refine lv_aload_n hx hb dX12_sum_39 rfl (lv_at hl 1 rfl) ?_
                  refine lv_dup hx hb dX12_sum_40 rfl ?_
                  refine va_get (D := D) (ci := 12) (v := .int (V292 0 7)) (C := RX12) (T := TX12) (N := 100) hx hb hg inX12 hown hK hP 0 rfl rfl 7 (by decide) (hg _ w1713) (fun _ h9 => h9) rfl dX12_sum_41 ?_
                  refine lv_iconst (v := 1) hx hb dX12_sum_44 (by decide) ?_
                  refine lv_iadd hx hb dX12_sum_45 ?_
                  refine lv_topi (fun z320 ez320 => ?_)
                  have hz320 : z320.toInt = ((V292 0 7)).toInt + 1 := i_add ez320 rfl (by decide) (by omega)
                  refine va_put (D := D) (ci := 12) (v := .int z320) (ty := tyX12 7) (C := RX12) (T := TX12) (N := 100) hx hb hg inX12 tyX12 tyX12_ok nmX12 hown hK hP hD hS 0 rfl rfl 7 (by decide) (hg _ w1713) (fun _ h9 => h9) rfl (tyX12_ok 7 (by decide)) rfl rfl (Nat.le_of_ble_eq_true rfl) dX12_sum_46 (fun H locs hP hD hS => ?_)
                  obtain ⟨V321, hV321⟩ : ∃ z, z = up2 V292 0 7 z320 := ⟨_, rfl⟩
                  have hP : va_P D vwCl (mw ad kk ks.1 V321 L293) H := by rw [hV321]; exact hP
                  have hD : va_D A (mw ad kk ks.1 V321 L293) := by rw [hV321]; exact hD
                  have hMV321 : rgd bM V321 := hMV292.put hV321 (i_full _)
                  have agV321 : agr [(0, 7), (0, 8), (0, 48), (0, 50)] [35, 36, 37, 38, 45, 46, 47] V V321 := agV292.up hV321 rfl
                  have hr322 : ∀ k, Rc gT (Crun gs (Isum gd :: k)) (Crun (nx s1 1) (Iprod gd :: Iem 6 :: IsumR gd :: k)) := fun k => Rc.go1 (hq k) (sumR_43 gd kd316)
                  have rl323 : RelM V321 L293 bq gn gT (nx s1 1) gl := RelM.n1 rq hV321 (by (first | exact om_55c67efb91e5 hz320 | omega)) (by rw [kd316]; decide)
                  have ps324 : (nx s1 1).1 0 = s1.1 0 + 1 := rfl
                  have fz325 := RelM.rg rl323
                  have pq326 : (V321 0 8).toInt = ((V292 0 8)).toInt := congrArg Int32.toInt (up2_k hV321 (by decide))
                  have pq327 : (V321 0 7).toInt = z320.toInt := congrArg Int32.toInt (up2_s hV321)
                  refine lv_aload_n hx hb dX12_sum_49 rfl (lv_at hl 1 rfl) ?_
                  have pq328 : (V321 0 48).toInt = ((V292 0 48)).toInt := congrArg Int32.toInt (up2_k hV321 (by decide))
                  have pq329 : (V321 0 50).toInt = ((V292 0 50)).toInt := congrArg Int32.toInt (up2_k hV321 (by decide))
                  have cd330 : CDm V321 (10000 * bq) s1 := CDm.ag dq9 (show agr [(0, 7)] [] V292 V321 from (agr.up agr.rf hV321 rfl)) ⟨rfl, rfl, fun _ => ⟨rfl, rfl, rfl⟩⟩
                  have cd331 : CDm V321 (10000 * bq) (nx s1 1) := CDm.mv cd330 (show ∀ j9, j9 = 5 ∨ 2000 ≤ j9 → (nx s1 1).2.1 j9 = s1.2.1 j9 from fun j9 h9 => (show ∀ j9, 5 ≤ j9 → (nx s1 1).2.1 j9 = s1.2.1 j9 from fun _ _ => rfl) j9 (by omega))
                  refine gA_void (gA_runV (As := []) (rest := []) (ci := 12) (q0 := 0) hx hb hml hown hg hP hD hK hS hA hnw hgk (hk_s_productA H.size ad kk V321 L293 (bq) (gn) (gT) ((nx s1 1)) (gl) (gd) hMV321 rl323 (show (V321 0 48).toInt ≤ 2 * (V321 0 7).toInt from by first | exact om_a28408d17a52 c1 hz320 pq327 pq328 ((Imp.go xlp295_3 ((pq326.symm).trans (fz325.2.2.1)))) | first | omega | ((try (have i_xlp295_3 := Imp.go xlp295_3 (by omega))); (try (have i_xlp295_2 := Imp.go xlp295_2 (by omega))); (try (have i_t8 := Imp.go t8 (by omega))); (try (have i_t8 := Imp.go t8 (by omega))); (try (have i_xlp295_2 := Imp.go xlp295_2 (by omega))); (try (have i_xlp295_3 := Imp.go xlp295_3 (by omega))); omega)) (show (V321 0 50).toInt = ((gd) : Int) from by first | exact om_047d18a7ea93 yd xlp295_5 pq329 | first | omega | ((try (have i_xlp295_3 := Imp.go xlp295_3 (by omega))); (try (have i_xlp295_2 := Imp.go xlp295_2 (by omega))); (try (have i_t8 := Imp.go t8 (by omega))); (try (have i_t8 := Imp.go t8 (by omega))); (try (have i_xlp295_2 := Imp.go xlp295_2 (by omega))); (try (have i_xlp295_3 := Imp.go xlp295_3 (by omega))); omega)) (show (V321 0 50).toInt + (dd : Int) = 8 from by first | exact om_cf161be9456d c4 xlp295_5 pq329 | first | omega | ((try (have i_xlp295_3 := Imp.go xlp295_3 (by omega))); (try (have i_xlp295_2 := Imp.go xlp295_2 (by omega))); (try (have i_t8 := Imp.go t8 (by omega))); (try (have i_t8 := Imp.go t8 (by omega))); (try (have i_xlp295_2 := Imp.go xlp295_2 (by omega))); (try (have i_xlp295_3 := Imp.go xlp295_3 (by omega))); omega)) (EM.mv em ((up2_k hV321 (by decide)).trans ((ajV292 0 51 rfl).trans (ajV17 0 51 rfl))) ((up2_k hV321 (by decide)).trans ((ajV292 0 52 rfl).trans (ajV17 0 52 rfl))) (by rw [(up2_fo hV321 (by decide) : V321 27 = V292 27), (funext (fun q => ajV292 27 q rfl) : V292 27 = V17 27), (funext (fun q => ajV17 27 q rfl) : V17 27 = V 27)] : V321 27 = V 27) ((keepS.tr (keepS.tr (keepS.rf : keepS gs 0 gs) kq) (keepS.n1 1))).2.1) cd331) w2124 w2126 w108 w172 w2127 rfl rfl hdV_yX12_product ⟨(by show 10 * dd + 11 + 1 ≤ 10 * dd + 12; (first | exact om_05e50ff0fdfa | omega)), (by show 8 + (2 + 11) + (300 * dd + 340) ≤ 300 * dd + 380; (first | exact om_8190647da377 | omega))⟩ rfl hl.1 rfl (Nat.le_of_ble_eq_true rfl) dX12_sum_50 ⟨Nat.le_of_ble_eq_true rfl, Nat.le_of_ble_eq_true rfl⟩) hP hD hK hS hA (fun u333 H locs w334 hP hD hK hS => ?_)
                  obtain ⟨V344, L345⟩ := u333
                  obtain ⟨hMV344, ajV344, axL345, t335, t336, t337, t338, t339, t340, t341, t342, t343⟩ := w334
                  have alL345 : agL [35, 36, 37, 38, 45, 46, 47] L L345 := agL.tr alL293 axL345 (by decide)
                  have hP : va_P D vwCl (mw ad kk ks.1 V344 L345) H := hP
                  have hD : va_D A (mw ad kk ks.1 V344 L345) := hD
                  have hMV344 : rgd bM V344 := hMV344
                  have ajV344 : agr [(0, 7), (0, 8), (0, 48), (0, 50)] [35, 36, 37, 38, 45, 46, 47] V321 V344 := ajV344
                  have agV344 : agr [(0, 7), (0, 8), (0, 48), (0, 50)] [35, 36, 37, 38, 45, 46, 47] V V344 := agV321.tr ajV344 (by decide) (by decide)
                  have t335 : Imp ((V344 0 8).toInt = 0) ((V344 0 48).toInt - (V321 0 48).toInt ≤ 2 * ((V344 0 7).toInt - (V321 0 7).toInt)) := t335
                  have t336 : (V344 0 48).toInt ≤ 8049 - 6 * (V321 0 50).toInt := t336
                  have t337 : (V344 0 50).toInt = (V321 0 50).toInt := t337
                  have t338 : (V321 0 48).toInt ≤ (V344 0 48).toInt := t338
                  have t339 : RdM (gT) ((nx s1 1)) (fun k => Iprod (gd) :: k) (fun k => k) (V344 0 8).toInt (fun s9 => RelM V344 L345 (bq) (gn) (gT) s9 (gl) ∧ keepS ((nx s1 1)) 1 s9 ∧ keepE ((nx s1 1)) s9 ∧ CDm V344 (10000 * (bq)) s9) := t339
                  have t340 : RoV 35 (bq) V321 V344 := t340
                  have t341 : RoV 37 (bq) V321 V344 := t341
                  have t342 : RoL 36 20 (bq) L293 L345 := t342
                  have t343 : RoL 38 20 (bq) L293 L345 := t343
                  have r346 : 0 ≤ ((V344 0 48)).toInt ∧ ((V344 0 48)).toInt ≤ 10000 := hMV344 0 48
                  have r347 : 0 ≤ ((V344 0 8)).toInt ∧ ((V344 0 8)).toInt ≤ 70000 := hMV344 0 8
                  have r348 : 0 ≤ ((V344 0 50)).toInt ∧ ((V344 0 50)).toInt ≤ 9 := hMV344 0 50
                  rcases t339 with ⟨q349, sx350, h351, rl352, kp353, ke354, cd355⟩ | ⟨q349, h351⟩
                  · skip
                    have hr356 : ∀ k, Rc gT (Crun gs (Isum gd :: k)) (Crun sx350 (Iem 6 :: IsumR gd :: k)) := fun k => (hr322 k).tr (h351 (Iem 6 :: IsumR gd :: k))
                    have fz357 := RelM.rg rl352
                    have ps358 := (kp353).1
                    refine lv_aload_n hx hb dX12_sum_53 rfl (lv_at hl 1 rfl) ?_
                    refine lv_iload_n hx hb dX12_sum_54 rfl (lv_at hl 0 rfl) ?_
                    refine lv_iconst (v := 0) hx hb dX12_sum_55 (by decide) ?_
                    refine lv_iconst (v := 0) hx hb dX12_sum_56 (by decide) ?_
                    have r359 : Int32.toInt 6 = 6 := by decide
                    have r360 : Int32.toInt 0 = 0 := by decide
                    refine gA_int (gA_runV (As := [.int 6, .int 0, .int 0]) (rest := []) (ci := 12) (q0 := 0) hx hb hml hown hg hP hD hK hS hA hnw hgk (s_emit3 l D ks H.size ad kk V344 L345 6 0 0 hMV344 (show (V344 0 48).toInt ≤ 9999 from by first | exact om_474d9bc6967f r2.1 xlp295_5 pq329 t336 | first | omega | ((try (have i_t335 := Imp.go t335 (by omega))); (try (have i_xlp295_3 := Imp.go xlp295_3 (by omega))); (try (have i_xlp295_2 := Imp.go xlp295_2 (by omega))); (try (have i_t8 := Imp.go t8 (by omega))); first | omega | ((try (have i_t8 := Imp.go t8 (by omega))); (try (have i_xlp295_2 := Imp.go xlp295_2 (by omega))); (try (have i_xlp295_3 := Imp.go xlp295_3 (by omega))); (try (have i_t335 := Imp.go t335 (by omega))); omega)))) w2136 w2138 w111 w172 w2139 rfl rfl hdV_yX12_emit ⟨(by show 0 + 1 ≤ 10 * dd + 12; (first | exact om_fdd9c7754232 | omega)), (by show 8 + (4 + 11) + (0) ≤ 300 * dd + 380; (first | exact om_87d12ca50388 | omega))⟩ rfl hl.1 rfl (Nat.le_of_ble_eq_true rfl) dX12_sum_57 ⟨Nat.le_of_ble_eq_true rfl, Nat.le_of_ble_eq_true rfl⟩) hP hD hK hS hA (fun z361 u362 H locs w363 hP hD hK hS => ?_)
                    obtain ⟨V367, L368⟩ := u362
                    obtain ⟨hMV367, ajV367, axL368, rgz361, t364, t365, t366⟩ := w363
                    have axL368 : L345 = L368 := Eq.symm axL368
                    subst axL368
                    have hP : va_P D vwCl (mw ad kk ks.1 V367 L345) H := hP
                    have hD : va_D A (mw ad kk ks.1 V367 L345) := hD
                    have hMV367 : rgd bM V367 := hMV367
                    have ajV367 : agr [(0, 48)] [45, 46, 47] V344 V367 := ajV367
                    have agV367 : agr [(0, 7), (0, 8), (0, 48), (0, 50)] [35, 36, 37, 38, 45, 46, 47] V V367 := agV344.tr ajV367 (by decide) (by decide)
                    have rgz361 : 0 ≤ z361.toInt ∧ z361.toInt ≤ 20000 := rgz361
                    have t364 : (V367 0 48).toInt = (V344 0 48).toInt + 1 := t364
                    have t365 : z361.toInt = (V344 0 49).toInt + (V344 0 48).toInt := t365
                    have t366 : emitted V344 V367 (pA V344) 6 0 0 := t366
                    have r369 : 0 ≤ ((V367 0 48)).toInt ∧ ((V367 0 48)).toInt ≤ 10000 := hMV367 0 48
                    have pq370 : (V344 0 49).toInt = ((V 0 49)).toInt := congrArg Int32.toInt ((ajV344 0 49 rfl).trans ((up2_k hV321 (by decide)).trans ((ajV292 0 49 rfl).trans (ajV17 0 49 rfl))))
                    have r371 : 0 ≤ ((V 0 49)).toInt ∧ ((V 0 49)).toInt ≤ 10000 := hMV 0 49
                    have hr372 : ∀ k, Rc gT (Crun gs (Isum gd :: k)) (Crun (emS sx350 6 0 0) (IsumR gd :: k)) := fun k => Rc.go1 (hr356 k) (m_em 6)
                    have rl373 : RelM V367 L345 bq gn gT sx350 gl := RelM.ag rl352 (show agr [(0, 48)] [45, 46, 47] V344 V367 from (agr.tr agr.rf ajV367 (by decide) (by decide))) (by decide) (show agL [] L345 L345 from agL.rf) (by decide)
                    have rl374 : RelM V367 L345 bq gn gT (emS sx350 6 0 0) gl := RelM.em rl373
                    have ps375 : (emS sx350 6 0 0).1 0 = sx350.1 0 := rfl
                    have fz376 := RelM.rg rl374
                    have pq377 : (V367 0 8).toInt = ((V344 0 8)).toInt := congrArg Int32.toInt (ajV367 0 8 rfl)
                    have pq378 : (V367 0 7).toInt = ((V344 0 7)).toInt := congrArg Int32.toInt (ajV367 0 7 rfl)
                    have cd379 : CDm V367 (10000 * bq) (emS sx350 6 0 0) := CDm.e0 cd355 t364 (ajV367 0 49 rfl) t366 (by decide) (by decide) (by decide) (by decide)
                    refine lv_istore_n (lv' := [(2, .int z361), (1, .int 6), (0, .ref (ad 0))]) hx hb dX12_sum_60 rfl hl (by decide) rfl (fun ls hl => ?_)
                    refine lv_goto (tgt := 4) hx hb dX12_sum_61 (by decide) ?_
                    have pq380 : (V367 0 50).toInt = ((V344 0 50)).toInt := congrArg Int32.toInt (ajV367 0 50 rfl)
                    have rw381 : RoV 35 bq V V367 := (fun k hk => ((ajV367 35 k rfl).trans ((t340 k hk).trans ((up2_o hV321 (by decide)).trans (xlp295_7 k hk)))))
                    have rw382 : RoV 37 bq V V367 := (fun k hk => ((ajV367 37 k rfl).trans ((t341 k hk).trans ((up2_o hV321 (by decide)).trans (xlp295_8 k hk)))))
                    have rw383 : RoL 36 20 bq L L345 := (fun k hk => ((t342 k hk).trans (xlp295_9 k hk)))
                    have rw384 : RoL 38 20 bq L L345 := (fun k hk => ((t343 k hk).trans (xlp295_10 k hk)))
                    exact ihlp295 (g294 - 1) V367 L345 H locs ls (Or.inl ⟨W0 rl374, (emS sx350 6 0 0), hr372, rl374, keepS.le (keepS.tr (keepS.tr (keepS.tr (keepS.tr (keepS.rf : keepS gs 0 gs) kq) (keepS.n1 1)) kp353) (show keepS sx350 0 (emS sx350 6 0 0) from keepS.em)) (by decide), (keepE.tr (keepE.tr (keepE.tr (keepE.tr (keepE.rf : keepE gs gs) eq9) (show keepE s1 (nx s1 1) from keepE.eq (show ∀ j9, 5 ≤ j9 → (nx s1 1).2.1 j9 = s1.2.1 j9 from fun _ _ => rfl))) ke354) (show keepE sx350 (emS sx350 6 0 0) from keepE.em)), cd379⟩) (show 0 ≤ (g294 - 1) from by first | omega | ((try (have i_t335 := Imp.go t335 (by omega))); (try (have i_xlp295_3 := Imp.go xlp295_3 (by omega))); (try (have i_xlp295_2 := Imp.go xlp295_2 (by omega))); (try (have i_t8 := Imp.go t8 (by omega))); first | omega | ((try (have i_t8 := Imp.go t8 (by omega))); (try (have i_xlp295_2 := Imp.go xlp295_2 (by omega))); (try (have i_xlp295_3 := Imp.go xlp295_3 (by omega))); (try (have i_t335 := Imp.go t335 (by omega))); omega))) (Imp.mk (fun hp => have hp : (V367 0 8).toInt = 0 := hp; (show (gn : Int) - (V367 0 7).toInt < (g294 - 1) from by first | exact om_67d12583fe7d hz320 pq327 t338 pq378 ((Imp.go xlp295_2 ((pq326.symm).trans (fz325.2.2.1)))) ((Imp.go t335 ((pq377.symm).trans (hp)))) | first | omega | ((try (have i_t335 := Imp.go t335 ((pq377.symm).trans (hp)))); omega) | ((try (have i_t335 := Imp.go t335 (by omega))); (try (have i_xlp295_3 := Imp.go xlp295_3 (by omega))); (try (have i_xlp295_2 := Imp.go xlp295_2 (by omega))); (try (have i_t8 := Imp.go t8 (by omega))); first | omega | ((try (have i_t8 := Imp.go t8 (by omega))); (try (have i_xlp295_2 := Imp.go xlp295_2 (by omega))); (try (have i_xlp295_3 := Imp.go xlp295_3 (by omega))); (try (have i_t335 := Imp.go t335 (by omega))); omega))))) (Imp.mk (fun hp => have hp : (V367 0 8).toInt = 0 := hp; (show (V367 0 48).toInt - (V 0 48).toInt ≤ 2 * ((V367 0 7).toInt - (V 0 7).toInt) from by first | exact om_24ed42d66743 hz320 pq327 pq328 t364 pq378 ((Imp.go xlp295_3 ((pq326.symm).trans (fz325.2.2.1)))) ((Imp.go t335 ((pq377.symm).trans (hp)))) | first | omega | ((try (have i_t335 := Imp.go t335 ((pq377.symm).trans (hp)))); omega) | ((try (have i_t335 := Imp.go t335 (by omega))); (try (have i_xlp295_3 := Imp.go xlp295_3 (by omega))); (try (have i_xlp295_2 := Imp.go xlp295_2 (by omega))); (try (have i_t8 := Imp.go t8 (by omega))); first | omega | ((try (have i_t8 := Imp.go t8 (by omega))); (try (have i_xlp295_2 := Imp.go xlp295_2 (by omega))); (try (have i_xlp295_3 := Imp.go xlp295_3 (by omega))); (try (have i_t335 := Imp.go t335 (by omega))); omega))))) (show (V367 0 48).toInt ≤ 8050 - 6 * (V 0 50).toInt from by first | exact om_c0d8f85437fe xlp295_5 pq329 t336 t364 | first | omega | ((try (have i_t335 := Imp.go t335 (by omega))); (try (have i_xlp295_3 := Imp.go xlp295_3 (by omega))); (try (have i_xlp295_2 := Imp.go xlp295_2 (by omega))); (try (have i_t8 := Imp.go t8 (by omega))); first | omega | ((try (have i_t8 := Imp.go t8 (by omega))); (try (have i_xlp295_2 := Imp.go xlp295_2 (by omega))); (try (have i_xlp295_3 := Imp.go xlp295_3 (by omega))); (try (have i_t335 := Imp.go t335 (by omega))); omega))) (show (V367 0 50).toInt = (V 0 50).toInt from by first | exact om_354a89fdc05f xlp295_5 pq329 t337 pq380 | first | omega | ((try (have i_t335 := Imp.go t335 (by omega))); (try (have i_xlp295_3 := Imp.go xlp295_3 (by omega))); (try (have i_xlp295_2 := Imp.go xlp295_2 (by omega))); (try (have i_t8 := Imp.go t8 (by omega))); first | omega | ((try (have i_t8 := Imp.go t8 (by omega))); (try (have i_xlp295_2 := Imp.go xlp295_2 (by omega))); (try (have i_xlp295_3 := Imp.go xlp295_3 (by omega))); (try (have i_t335 := Imp.go t335 (by omega))); omega))) (show (V 0 48).toInt ≤ (V367 0 48).toInt from by first | exact om_f68890bd9a1b xlp295_6 pq328 t338 t364 | first | omega | ((try (have i_t335 := Imp.go t335 (by omega))); (try (have i_xlp295_3 := Imp.go xlp295_3 (by omega))); (try (have i_xlp295_2 := Imp.go xlp295_2 (by omega))); (try (have i_t8 := Imp.go t8 (by omega))); first | omega | ((try (have i_t8 := Imp.go t8 (by omega))); (try (have i_xlp295_2 := Imp.go xlp295_2 (by omega))); (try (have i_xlp295_3 := Imp.go xlp295_3 (by omega))); (try (have i_t335 := Imp.go t335 (by omega))); omega))) rw381 rw382 rw383 rw384 (by first | exact om_5922346f4861 hn | first | omega | ((try (have i_t335 := Imp.go t335 (by omega))); (try (have i_xlp295_3 := Imp.go xlp295_3 (by omega))); (try (have i_xlp295_2 := Imp.go xlp295_2 (by omega))); (try (have i_t8 := Imp.go t8 (by omega))); first | omega | ((try (have i_t8 := Imp.go t8 (by omega))); (try (have i_xlp295_2 := Imp.go xlp295_2 (by omega))); (try (have i_xlp295_3 := Imp.go xlp295_3 (by omega))); (try (have i_t335 := Imp.go t335 (by omega))); omega))) alL345 (agr.tr (agr.tr (agr.up (agr.tr agr.rf ajV292 (by decide) (by decide)) hV321 rfl) ajV344 (by decide) (by decide)) ajV367 (by decide) (by decide)) hMV367 hP hD hS (lv_sub hl [2] rfl)
                  · skip
                    have hb385 : ∀ k, Rc gT (Crun gs (Isum gd :: k)) (Cbad (V344 0 8).toInt) := fun k => (hr322 k).tr (h351 (Iem 6 :: IsumR gd :: k))
                    refine lv_aload_n hx hb dX12_sum_53 rfl (lv_at hl 1 rfl) ?_
                    refine lv_iload_n hx hb dX12_sum_54 rfl (lv_at hl 0 rfl) ?_
                    refine lv_iconst (v := 0) hx hb dX12_sum_55 (by decide) ?_
                    refine lv_iconst (v := 0) hx hb dX12_sum_56 (by decide) ?_
                    have r386 : Int32.toInt 6 = 6 := by decide
                    have r387 : Int32.toInt 0 = 0 := by decide
                    refine gA_int (gA_runV (As := [.int 6, .int 0, .int 0]) (rest := []) (ci := 12) (q0 := 0) hx hb hml hown hg hP hD hK hS hA hnw hgk (s_emit3 l D ks H.size ad kk V344 L345 6 0 0 hMV344 (show (V344 0 48).toInt ≤ 9999 from by first | exact om_474d9bc6967f r2.1 xlp295_5 pq329 t336 | first | omega | ((try (have i_t335 := Imp.go t335 (by omega))); (try (have i_xlp295_3 := Imp.go xlp295_3 (by omega))); (try (have i_xlp295_2 := Imp.go xlp295_2 (by omega))); (try (have i_t8 := Imp.go t8 (by omega))); first | omega | ((try (have i_t8 := Imp.go t8 (by omega))); (try (have i_xlp295_2 := Imp.go xlp295_2 (by omega))); (try (have i_xlp295_3 := Imp.go xlp295_3 (by omega))); (try (have i_t335 := Imp.go t335 (by omega))); omega)))) w2136 w2138 w111 w172 w2139 rfl rfl hdV_yX12_emit ⟨(by show 0 + 1 ≤ 10 * dd + 12; (first | exact om_fdd9c7754232 | omega)), (by show 8 + (4 + 11) + (0) ≤ 300 * dd + 380; (first | exact om_87d12ca50388 | omega))⟩ rfl hl.1 rfl (Nat.le_of_ble_eq_true rfl) dX12_sum_57 ⟨Nat.le_of_ble_eq_true rfl, Nat.le_of_ble_eq_true rfl⟩) hP hD hK hS hA (fun z388 u389 H locs w390 hP hD hK hS => ?_)
                    obtain ⟨V394, L395⟩ := u389
                    obtain ⟨hMV394, ajV394, axL395, rgz388, t391, t392, t393⟩ := w390
                    have axL395 : L345 = L395 := Eq.symm axL395
                    subst axL395
                    have hP : va_P D vwCl (mw ad kk ks.1 V394 L345) H := hP
                    have hD : va_D A (mw ad kk ks.1 V394 L345) := hD
                    have hMV394 : rgd bM V394 := hMV394
                    have ajV394 : agr [(0, 48)] [45, 46, 47] V344 V394 := ajV394
                    have agV394 : agr [(0, 7), (0, 8), (0, 48), (0, 50)] [35, 36, 37, 38, 45, 46, 47] V V394 := agV344.tr ajV394 (by decide) (by decide)
                    have rgz388 : 0 ≤ z388.toInt ∧ z388.toInt ≤ 20000 := rgz388
                    have t391 : (V394 0 48).toInt = (V344 0 48).toInt + 1 := t391
                    have t392 : z388.toInt = (V344 0 49).toInt + (V344 0 48).toInt := t392
                    have t393 : emitted V344 V394 (pA V344) 6 0 0 := t393
                    have r396 : 0 ≤ ((V394 0 48)).toInt ∧ ((V394 0 48)).toInt ≤ 10000 := hMV394 0 48
                    have pq397 : (V344 0 49).toInt = ((V 0 49)).toInt := congrArg Int32.toInt ((ajV344 0 49 rfl).trans ((up2_k hV321 (by decide)).trans ((ajV292 0 49 rfl).trans (ajV17 0 49 rfl))))
                    have r398 : 0 ≤ ((V 0 49)).toInt ∧ ((V 0 49)).toInt ≤ 10000 := hMV 0 49
                    refine lv_istore_n (lv' := [(2, .int z388), (1, .int 6), (0, .ref (ad 0))]) hx hb dX12_sum_60 rfl hl (by decide) rfl (fun ls hl => ?_)
                    refine lv_goto (tgt := 4) hx hb dX12_sum_61 (by decide) ?_
                    have pq399 : (V394 0 7).toInt = ((V344 0 7)).toInt := congrArg Int32.toInt (ajV394 0 7 rfl)
                    have pq400 : (V394 0 8).toInt = ((V344 0 8)).toInt := congrArg Int32.toInt (ajV394 0 8 rfl)
                    have pq401 : (V394 0 50).toInt = ((V344 0 50)).toInt := congrArg Int32.toInt (ajV394 0 50 rfl)
                    have rw402 : RoV 35 bq V V394 := (fun k hk => ((ajV394 35 k rfl).trans ((t340 k hk).trans ((up2_o hV321 (by decide)).trans (xlp295_7 k hk)))))
                    have rw403 : RoV 37 bq V V394 := (fun k hk => ((ajV394 37 k rfl).trans ((t341 k hk).trans ((up2_o hV321 (by decide)).trans (xlp295_8 k hk)))))
                    have rw404 : RoL 36 20 bq L L345 := (fun k hk => ((t342 k hk).trans (xlp295_9 k hk)))
                    have rw405 : RoL 38 20 bq L L345 := (fun k hk => ((t343 k hk).trans (xlp295_10 k hk)))
                    exact ihlp295 (g294 - 1) V394 L345 H locs ls (Or.inr ⟨(show 1 ≤ (V394 0 8).toInt from by omega), (fun k => by rw [show (V394 0 8).toInt = (V344 0 8).toInt from by omega]; exact hb385 k)⟩) (show 0 ≤ (g294 - 1) from by first | omega | ((try (have i_t335 := Imp.go t335 (by omega))); (try (have i_xlp295_3 := Imp.go xlp295_3 (by omega))); (try (have i_xlp295_2 := Imp.go xlp295_2 (by omega))); (try (have i_t8 := Imp.go t8 (by omega))); first | omega | ((try (have i_t8 := Imp.go t8 (by omega))); (try (have i_xlp295_2 := Imp.go xlp295_2 (by omega))); (try (have i_xlp295_3 := Imp.go xlp295_3 (by omega))); (try (have i_t335 := Imp.go t335 (by omega))); omega))) (Imp.mk (fun hp => have hp : (V394 0 8).toInt = 0 := hp; (show (gn : Int) - (V394 0 7).toInt < (g294 - 1) from by first | exact om_67d12583fe7d hz320 pq327 t338 pq399 ((Imp.go xlp295_2 ((pq326.symm).trans (fz325.2.2.1)))) ((Imp.go t335 ((pq400.symm).trans (hp)))) | first | omega | ((try (have i_t335 := Imp.go t335 ((pq400.symm).trans (hp)))); omega) | ((try (have i_t335 := Imp.go t335 (by omega))); (try (have i_xlp295_3 := Imp.go xlp295_3 (by omega))); (try (have i_xlp295_2 := Imp.go xlp295_2 (by omega))); (try (have i_t8 := Imp.go t8 (by omega))); first | omega | ((try (have i_t8 := Imp.go t8 (by omega))); (try (have i_xlp295_2 := Imp.go xlp295_2 (by omega))); (try (have i_xlp295_3 := Imp.go xlp295_3 (by omega))); (try (have i_t335 := Imp.go t335 (by omega))); omega))))) (Imp.mk (fun hp => have hp : (V394 0 8).toInt = 0 := hp; (show (V394 0 48).toInt - (V 0 48).toInt ≤ 2 * ((V394 0 7).toInt - (V 0 7).toInt) from by first | exact om_24ed42d66743 hz320 pq327 pq328 t391 pq399 ((Imp.go xlp295_3 ((pq326.symm).trans (fz325.2.2.1)))) ((Imp.go t335 ((pq400.symm).trans (hp)))) | first | omega | ((try (have i_t335 := Imp.go t335 ((pq400.symm).trans (hp)))); omega) | ((try (have i_t335 := Imp.go t335 (by omega))); (try (have i_xlp295_3 := Imp.go xlp295_3 (by omega))); (try (have i_xlp295_2 := Imp.go xlp295_2 (by omega))); (try (have i_t8 := Imp.go t8 (by omega))); first | omega | ((try (have i_t8 := Imp.go t8 (by omega))); (try (have i_xlp295_2 := Imp.go xlp295_2 (by omega))); (try (have i_xlp295_3 := Imp.go xlp295_3 (by omega))); (try (have i_t335 := Imp.go t335 (by omega))); omega))))) (show (V394 0 48).toInt ≤ 8050 - 6 * (V 0 50).toInt from by first | exact om_c0d8f85437fe xlp295_5 pq329 t336 t391 | first | omega | ((try (have i_t335 := Imp.go t335 (by omega))); (try (have i_xlp295_3 := Imp.go xlp295_3 (by omega))); (try (have i_xlp295_2 := Imp.go xlp295_2 (by omega))); (try (have i_t8 := Imp.go t8 (by omega))); first | omega | ((try (have i_t8 := Imp.go t8 (by omega))); (try (have i_xlp295_2 := Imp.go xlp295_2 (by omega))); (try (have i_xlp295_3 := Imp.go xlp295_3 (by omega))); (try (have i_t335 := Imp.go t335 (by omega))); omega))) (show (V394 0 50).toInt = (V 0 50).toInt from by first | exact om_354a89fdc05f xlp295_5 pq329 t337 pq401 | first | omega | ((try (have i_t335 := Imp.go t335 (by omega))); (try (have i_xlp295_3 := Imp.go xlp295_3 (by omega))); (try (have i_xlp295_2 := Imp.go xlp295_2 (by omega))); (try (have i_t8 := Imp.go t8 (by omega))); first | omega | ((try (have i_t8 := Imp.go t8 (by omega))); (try (have i_xlp295_2 := Imp.go xlp295_2 (by omega))); (try (have i_xlp295_3 := Imp.go xlp295_3 (by omega))); (try (have i_t335 := Imp.go t335 (by omega))); omega))) (show (V 0 48).toInt ≤ (V394 0 48).toInt from by first | exact om_f68890bd9a1b xlp295_6 pq328 t338 t391 | first | omega | ((try (have i_t335 := Imp.go t335 (by omega))); (try (have i_xlp295_3 := Imp.go xlp295_3 (by omega))); (try (have i_xlp295_2 := Imp.go xlp295_2 (by omega))); (try (have i_t8 := Imp.go t8 (by omega))); first | omega | ((try (have i_t8 := Imp.go t8 (by omega))); (try (have i_xlp295_2 := Imp.go xlp295_2 (by omega))); (try (have i_xlp295_3 := Imp.go xlp295_3 (by omega))); (try (have i_t335 := Imp.go t335 (by omega))); omega))) rw402 rw403 rw404 rw405 (by first | exact om_5922346f4861 hn | first | omega | ((try (have i_t335 := Imp.go t335 (by omega))); (try (have i_xlp295_3 := Imp.go xlp295_3 (by omega))); (try (have i_xlp295_2 := Imp.go xlp295_2 (by omega))); (try (have i_t8 := Imp.go t8 (by omega))); first | omega | ((try (have i_t8 := Imp.go t8 (by omega))); (try (have i_xlp295_2 := Imp.go xlp295_2 (by omega))); (try (have i_xlp295_3 := Imp.go xlp295_3 (by omega))); (try (have i_t335 := Imp.go t335 (by omega))); omega))) alL345 (agr.tr (agr.tr (agr.up (agr.tr agr.rf ajV292 (by decide) (by decide)) hV321 rfl) ajV344 (by decide) (by decide)) ajV394 (by decide) (by decide)) hMV394 hP hD hS (lv_sub hl [2] rfl)
              · skip
                have kd406 : gT.1 (s1.1 0) ≠ 43 := fun h9 => h315 (h9.trans (by decide))
                exact absurd kd307 kd406
            · skip
              have f407 : z301.toInt = 0 := b_eq rfl (by decide) c308
              exfalso; first | exact om_495ee03a60ae q305 f407 | first | omega | ((try (have i_xlp295_3 := Imp.go xlp295_3 (by omega))); (try (have i_xlp295_2 := Imp.go xlp295_2 (by omega))); (try (have i_t8 := Imp.go t8 (by omega))); (try (have i_t8 := Imp.go t8 (by omega))); (try (have i_xlp295_2 := Imp.go xlp295_2 (by omega))); (try (have i_xlp295_3 := Imp.go xlp295_3 (by omega))); omega)
          · skip
            have kd408 : gT.1 (s1.1 0) ≠ 43 := fun h9 => h306 (h9.trans (by decide))
            refine lv_if_ne (tgt := 22) hx hb dX12_sum_10 (by decide) (fun c409 => ?_) (fun c409 => ?_)
            · skip
              have f410 : z301.toInt ≠ 0 := b_neq rfl (by decide) c409
              exfalso; first | exact om_fb320d7600b7 rgz301.1 q305 f410 | first | omega | ((try (have i_xlp295_3 := Imp.go xlp295_3 (by omega))); (try (have i_xlp295_2 := Imp.go xlp295_2 (by omega))); (try (have i_t8 := Imp.go t8 (by omega))); (try (have i_t8 := Imp.go t8 (by omega))); (try (have i_xlp295_2 := Imp.go xlp295_2 (by omega))); (try (have i_xlp295_3 := Imp.go xlp295_3 (by omega))); omega)
            · skip
              have f411 : z301.toInt = 0 := b_eq rfl (by decide) c409
              refine lv_aload_n hx hb dX12_sum_13 rfl (lv_at hl 0 rfl) ?_
              refine lv_bipush (v := 45) hx hb dX12_sum_14 (by decide) ?_
              have r412 : Int32.toInt 45 = 45 := by decide
              refine gA_int (gA_runV (As := [.int 45]) (rest := []) (ci := 12) (q0 := 0) hx hb hml hown hg hP hD hK hS hA hnw hgk (s_isSignA l D ks H.size ad kk V292 L293 45 (bq) (gn) (gT) (s1) (gl) hMV292 rq (sg_yes (j := 45) (by decide) (by decide) (by decide))) w2071 w2073 w95 w172 w2074 rfl rfl hdV_yX12_isSign ⟨(by show 0 + 1 ≤ 10 * dd + 12; (first | exact om_fdd9c7754232 | omega)), (by show 8 + (2 + 11) + (0) ≤ 300 * dd + 380; (first | exact om_1d76971512b8 | omega))⟩ rfl hl.1 rfl (Nat.le_of_ble_eq_true rfl) dX12_sum_16 ⟨Nat.le_of_ble_eq_true rfl, Nat.le_of_ble_eq_true rfl⟩) hP hD hK hS hA (fun z413 u414 H locs w415 hP hD hK hS => ?_)
              obtain ⟨rgz413, t416⟩ := w415
              have rgz413 : 0 ≤ z413.toInt ∧ z413.toInt ≤ 1 := rgz413
              have t416 : (z413.toInt = 1 ∧ (gT).1 ((s1).1 0) = (Int32.toInt 45)) ∨ (z413.toInt = 0 ∧ (gT).1 ((s1).1 0) ≠ (Int32.toInt 45)) := t416
              rcases t416 with ⟨q417, h418⟩ | ⟨q417, h418⟩
              · skip
                have kd419 : gT.1 (s1.1 0) = 45 := h418.trans (by decide)
                refine lv_if_eq (tgt := 64) hx hb dX12_sum_19 (by decide) (fun c420 => ?_) (fun c420 => ?_)
                · skip
                  have f421 : z413.toInt = 0 := b_eq rfl (by decide) c420
                  exfalso; first | exact om_495ee03a60ae q417 f421 | first | omega | ((try (have i_xlp295_3 := Imp.go xlp295_3 (by omega))); (try (have i_xlp295_2 := Imp.go xlp295_2 (by omega))); (try (have i_t8 := Imp.go t8 (by omega))); (try (have i_t8 := Imp.go t8 (by omega))); (try (have i_xlp295_2 := Imp.go xlp295_2 (by omega))); (try (have i_xlp295_3 := Imp.go xlp295_3 (by omega))); omega)
                · skip
                  have f422 : z413.toInt ≠ 0 := b_neq rfl (by decide) c420
                  refine lv_aload_n hx hb dX12_sum_22 rfl (lv_at hl 0 rfl) ?_
                  refine lv_bipush (v := 43) hx hb dX12_sum_23 (by decide) ?_
                  refine gA_int (gA_runV (As := [.int 43]) (rest := []) (ci := 12) (q0 := 0) hx hb hml hown hg hP hD hK hS hA hnw hgk (s_isSignA l D ks H.size ad kk V292 L293 43 (bq) (gn) (gT) (s1) (gl) hMV292 rq (sg_yes (j := 43) (by decide) (by decide) (by decide))) w2071 w2073 w95 w172 w2074 rfl rfl hdV_yX12_isSign ⟨(by show 0 + 1 ≤ 10 * dd + 12; (first | exact om_fdd9c7754232 | omega)), (by show 8 + (2 + 11) + (0) ≤ 300 * dd + 380; (first | exact om_1d76971512b8 | omega))⟩ rfl hl.1 rfl (Nat.le_of_ble_eq_true rfl) dX12_sum_25 ⟨Nat.le_of_ble_eq_true rfl, Nat.le_of_ble_eq_true rfl⟩) hP hD hK hS hA (fun z423 u424 H locs w425 hP hD hK hS => ?_)
                  obtain ⟨rgz423, t426⟩ := w425
                  have rgz423 : 0 ≤ z423.toInt ∧ z423.toInt ≤ 1 := rgz423
                  have t426 : (z423.toInt = 1 ∧ (gT).1 ((s1).1 0) = (Int32.toInt 43)) ∨ (z423.toInt = 0 ∧ (gT).1 ((s1).1 0) ≠ (Int32.toInt 43)) := t426
                  rcases t426 with ⟨q427, h428⟩ | ⟨q427, h428⟩
                  · skip
                    have kd429 : gT.1 (s1.1 0) = 43 := h428.trans (by decide)
                    exact absurd (kd419.symm.trans kd429) (by decide)
                  · skip
                    have kd430 : gT.1 (s1.1 0) ≠ 43 := fun h9 => h428 (h9.trans (by decide))
                    refine lv_if_eq (tgt := 36) hx hb dX12_sum_28 (by decide) (fun c431 => ?_) (fun c431 => ?_)
                    · skip
                      have f432 : z423.toInt = 0 := b_eq rfl (by decide) c431
                      refine lv_bipush (v := 7) hx hb dX12_sum_36 (by decide) ?_
                      refine lv_istore_n (lv' := [(1, .int 7), (0, .ref (ad 0))]) hx hb dX12_sum_38 rfl hl (by decide) rfl (fun ls hl => ?_)
                      refine lv_aload_n hx hb dX12_sum_39 rfl (lv_at hl 1 rfl) ?_
                      refine lv_dup hx hb dX12_sum_40 rfl ?_
                      refine va_get (D := D) (ci := 12) (v := .int (V292 0 7)) (C := RX12) (T := TX12) (N := 100) hx hb hg inX12 hown hK hP 0 rfl rfl 7 (by decide) (hg _ w1713) (fun _ h9 => h9) rfl dX12_sum_41 ?_
                      refine lv_iconst (v := 1) hx hb dX12_sum_44 (by decide) ?_
                      refine lv_iadd hx hb dX12_sum_45 ?_
                      refine lv_topi (fun z433 ez433 => ?_)
                      have hz433 : z433.toInt = ((V292 0 7)).toInt + 1 := i_add ez433 rfl (by decide) (by omega)
                      refine va_put (D := D) (ci := 12) (v := .int z433) (ty := tyX12 7) (C := RX12) (T := TX12) (N := 100) hx hb hg inX12 tyX12 tyX12_ok nmX12 hown hK hP hD hS 0 rfl rfl 7 (by decide) (hg _ w1713) (fun _ h9 => h9) rfl (tyX12_ok 7 (by decide)) rfl rfl (Nat.le_of_ble_eq_true rfl) dX12_sum_46 (fun H locs hP hD hS => ?_)
                      obtain ⟨V434, hV434⟩ : ∃ z, z = up2 V292 0 7 z433 := ⟨_, rfl⟩
                      have hP : va_P D vwCl (mw ad kk ks.1 V434 L293) H := by rw [hV434]; exact hP
                      have hD : va_D A (mw ad kk ks.1 V434 L293) := by rw [hV434]; exact hD
                      have hMV434 : rgd bM V434 := hMV292.put hV434 (i_full _)
                      have agV434 : agr [(0, 7), (0, 8), (0, 48), (0, 50)] [35, 36, 37, 38, 45, 46, 47] V V434 := agV292.up hV434 rfl
                      have hr435 : ∀ k, Rc gT (Crun gs (Isum gd :: k)) (Crun (nx s1 1) (Iprod gd :: Iem 7 :: IsumR gd :: k)) := fun k => Rc.go1 (hq k) (sumR_45 gd kd419)
                      have rl436 : RelM V434 L293 bq gn gT (nx s1 1) gl := RelM.n1 rq hV434 (by (first | exact om_55c67efb91e5 hz433 | omega)) (by rw [kd419]; decide)
                      have ps437 : (nx s1 1).1 0 = s1.1 0 + 1 := rfl
                      have fz438 := RelM.rg rl436
                      have pq439 : (V434 0 8).toInt = ((V292 0 8)).toInt := congrArg Int32.toInt (up2_k hV434 (by decide))
                      have pq440 : (V434 0 7).toInt = z433.toInt := congrArg Int32.toInt (up2_s hV434)
                      refine lv_aload_n hx hb dX12_sum_49 rfl (lv_at hl 1 rfl) ?_
                      have pq441 : (V434 0 48).toInt = ((V292 0 48)).toInt := congrArg Int32.toInt (up2_k hV434 (by decide))
                      have pq442 : (V434 0 50).toInt = ((V292 0 50)).toInt := congrArg Int32.toInt (up2_k hV434 (by decide))
                      have cd443 : CDm V434 (10000 * bq) s1 := CDm.ag dq9 (show agr [(0, 7)] [] V292 V434 from (agr.up agr.rf hV434 rfl)) ⟨rfl, rfl, fun _ => ⟨rfl, rfl, rfl⟩⟩
                      have cd444 : CDm V434 (10000 * bq) (nx s1 1) := CDm.mv cd443 (show ∀ j9, j9 = 5 ∨ 2000 ≤ j9 → (nx s1 1).2.1 j9 = s1.2.1 j9 from fun j9 h9 => (show ∀ j9, 5 ≤ j9 → (nx s1 1).2.1 j9 = s1.2.1 j9 from fun _ _ => rfl) j9 (by omega))
                      refine gA_void (gA_runV (As := []) (rest := []) (ci := 12) (q0 := 0) hx hb hml hown hg hP hD hK hS hA hnw hgk (hk_s_productA H.size ad kk V434 L293 (bq) (gn) (gT) ((nx s1 1)) (gl) (gd) hMV434 rl436 (show (V434 0 48).toInt ≤ 2 * (V434 0 7).toInt from by first | exact om_a28408d17a52 c1 hz433 pq440 pq441 ((Imp.go xlp295_3 ((pq439.symm).trans (fz438.2.2.1)))) | first | omega | ((try (have i_xlp295_3 := Imp.go xlp295_3 (by omega))); (try (have i_xlp295_2 := Imp.go xlp295_2 (by omega))); (try (have i_t8 := Imp.go t8 (by omega))); (try (have i_t8 := Imp.go t8 (by omega))); (try (have i_xlp295_2 := Imp.go xlp295_2 (by omega))); (try (have i_xlp295_3 := Imp.go xlp295_3 (by omega))); omega)) (show (V434 0 50).toInt = ((gd) : Int) from by first | exact om_047d18a7ea93 yd xlp295_5 pq442 | first | omega | ((try (have i_xlp295_3 := Imp.go xlp295_3 (by omega))); (try (have i_xlp295_2 := Imp.go xlp295_2 (by omega))); (try (have i_t8 := Imp.go t8 (by omega))); (try (have i_t8 := Imp.go t8 (by omega))); (try (have i_xlp295_2 := Imp.go xlp295_2 (by omega))); (try (have i_xlp295_3 := Imp.go xlp295_3 (by omega))); omega)) (show (V434 0 50).toInt + (dd : Int) = 8 from by first | exact om_cf161be9456d c4 xlp295_5 pq442 | first | omega | ((try (have i_xlp295_3 := Imp.go xlp295_3 (by omega))); (try (have i_xlp295_2 := Imp.go xlp295_2 (by omega))); (try (have i_t8 := Imp.go t8 (by omega))); (try (have i_t8 := Imp.go t8 (by omega))); (try (have i_xlp295_2 := Imp.go xlp295_2 (by omega))); (try (have i_xlp295_3 := Imp.go xlp295_3 (by omega))); omega)) (EM.mv em ((up2_k hV434 (by decide)).trans ((ajV292 0 51 rfl).trans (ajV17 0 51 rfl))) ((up2_k hV434 (by decide)).trans ((ajV292 0 52 rfl).trans (ajV17 0 52 rfl))) (by rw [(up2_fo hV434 (by decide) : V434 27 = V292 27), (funext (fun q => ajV292 27 q rfl) : V292 27 = V17 27), (funext (fun q => ajV17 27 q rfl) : V17 27 = V 27)] : V434 27 = V 27) ((keepS.tr (keepS.tr (keepS.rf : keepS gs 0 gs) kq) (keepS.n1 1))).2.1) cd444) w2124 w2126 w108 w172 w2127 rfl rfl hdV_yX12_product ⟨(by show 10 * dd + 11 + 1 ≤ 10 * dd + 12; (first | exact om_05e50ff0fdfa | omega)), (by show 8 + (2 + 11) + (300 * dd + 340) ≤ 300 * dd + 380; (first | exact om_8190647da377 | omega))⟩ rfl hl.1 rfl (Nat.le_of_ble_eq_true rfl) dX12_sum_50 ⟨Nat.le_of_ble_eq_true rfl, Nat.le_of_ble_eq_true rfl⟩) hP hD hK hS hA (fun u446 H locs w447 hP hD hK hS => ?_)
                      obtain ⟨V457, L458⟩ := u446
                      obtain ⟨hMV457, ajV457, axL458, t448, t449, t450, t451, t452, t453, t454, t455, t456⟩ := w447
                      have alL458 : agL [35, 36, 37, 38, 45, 46, 47] L L458 := agL.tr alL293 axL458 (by decide)
                      have hP : va_P D vwCl (mw ad kk ks.1 V457 L458) H := hP
                      have hD : va_D A (mw ad kk ks.1 V457 L458) := hD
                      have hMV457 : rgd bM V457 := hMV457
                      have ajV457 : agr [(0, 7), (0, 8), (0, 48), (0, 50)] [35, 36, 37, 38, 45, 46, 47] V434 V457 := ajV457
                      have agV457 : agr [(0, 7), (0, 8), (0, 48), (0, 50)] [35, 36, 37, 38, 45, 46, 47] V V457 := agV434.tr ajV457 (by decide) (by decide)
                      have t448 : Imp ((V457 0 8).toInt = 0) ((V457 0 48).toInt - (V434 0 48).toInt ≤ 2 * ((V457 0 7).toInt - (V434 0 7).toInt)) := t448
                      have t449 : (V457 0 48).toInt ≤ 8049 - 6 * (V434 0 50).toInt := t449
                      have t450 : (V457 0 50).toInt = (V434 0 50).toInt := t450
                      have t451 : (V434 0 48).toInt ≤ (V457 0 48).toInt := t451
                      have t452 : RdM (gT) ((nx s1 1)) (fun k => Iprod (gd) :: k) (fun k => k) (V457 0 8).toInt (fun s9 => RelM V457 L458 (bq) (gn) (gT) s9 (gl) ∧ keepS ((nx s1 1)) 1 s9 ∧ keepE ((nx s1 1)) s9 ∧ CDm V457 (10000 * (bq)) s9) := t452
                      have t453 : RoV 35 (bq) V434 V457 := t453
                      have t454 : RoV 37 (bq) V434 V457 := t454
                      have t455 : RoL 36 20 (bq) L293 L458 := t455
                      have t456 : RoL 38 20 (bq) L293 L458 := t456
                      have r459 : 0 ≤ ((V457 0 48)).toInt ∧ ((V457 0 48)).toInt ≤ 10000 := hMV457 0 48
                      have r460 : 0 ≤ ((V457 0 8)).toInt ∧ ((V457 0 8)).toInt ≤ 70000 := hMV457 0 8
                      have r461 : 0 ≤ ((V457 0 50)).toInt ∧ ((V457 0 50)).toInt ≤ 9 := hMV457 0 50
                      rcases t452 with ⟨q462, sx463, h464, rl465, kp466, ke467, cd468⟩ | ⟨q462, h464⟩
                      · skip
                        have hr469 : ∀ k, Rc gT (Crun gs (Isum gd :: k)) (Crun sx463 (Iem 7 :: IsumR gd :: k)) := fun k => (hr435 k).tr (h464 (Iem 7 :: IsumR gd :: k))
                        have fz470 := RelM.rg rl465
                        have ps471 := (kp466).1
                        refine lv_aload_n hx hb dX12_sum_53 rfl (lv_at hl 1 rfl) ?_
                        refine lv_iload_n hx hb dX12_sum_54 rfl (lv_at hl 0 rfl) ?_
                        refine lv_iconst (v := 0) hx hb dX12_sum_55 (by decide) ?_
                        refine lv_iconst (v := 0) hx hb dX12_sum_56 (by decide) ?_
                        have r472 : Int32.toInt 7 = 7 := by decide
                        have r473 : Int32.toInt 0 = 0 := by decide
                        refine gA_int (gA_runV (As := [.int 7, .int 0, .int 0]) (rest := []) (ci := 12) (q0 := 0) hx hb hml hown hg hP hD hK hS hA hnw hgk (s_emit3 l D ks H.size ad kk V457 L458 7 0 0 hMV457 (show (V457 0 48).toInt ≤ 9999 from by first | exact om_474d9bc6967f r2.1 xlp295_5 pq442 t449 | first | omega | ((try (have i_t448 := Imp.go t448 (by omega))); (try (have i_xlp295_3 := Imp.go xlp295_3 (by omega))); (try (have i_xlp295_2 := Imp.go xlp295_2 (by omega))); (try (have i_t8 := Imp.go t8 (by omega))); first | omega | ((try (have i_t8 := Imp.go t8 (by omega))); (try (have i_xlp295_2 := Imp.go xlp295_2 (by omega))); (try (have i_xlp295_3 := Imp.go xlp295_3 (by omega))); (try (have i_t448 := Imp.go t448 (by omega))); omega)))) w2136 w2138 w111 w172 w2139 rfl rfl hdV_yX12_emit ⟨(by show 0 + 1 ≤ 10 * dd + 12; (first | exact om_fdd9c7754232 | omega)), (by show 8 + (4 + 11) + (0) ≤ 300 * dd + 380; (first | exact om_87d12ca50388 | omega))⟩ rfl hl.1 rfl (Nat.le_of_ble_eq_true rfl) dX12_sum_57 ⟨Nat.le_of_ble_eq_true rfl, Nat.le_of_ble_eq_true rfl⟩) hP hD hK hS hA (fun z474 u475 H locs w476 hP hD hK hS => ?_)
                        obtain ⟨V480, L481⟩ := u475
                        obtain ⟨hMV480, ajV480, axL481, rgz474, t477, t478, t479⟩ := w476
                        have axL481 : L458 = L481 := Eq.symm axL481
                        subst axL481
                        have hP : va_P D vwCl (mw ad kk ks.1 V480 L458) H := hP
                        have hD : va_D A (mw ad kk ks.1 V480 L458) := hD
                        have hMV480 : rgd bM V480 := hMV480
                        have ajV480 : agr [(0, 48)] [45, 46, 47] V457 V480 := ajV480
                        have agV480 : agr [(0, 7), (0, 8), (0, 48), (0, 50)] [35, 36, 37, 38, 45, 46, 47] V V480 := agV457.tr ajV480 (by decide) (by decide)
                        have rgz474 : 0 ≤ z474.toInt ∧ z474.toInt ≤ 20000 := rgz474
                        have t477 : (V480 0 48).toInt = (V457 0 48).toInt + 1 := t477
                        have t478 : z474.toInt = (V457 0 49).toInt + (V457 0 48).toInt := t478
                        have t479 : emitted V457 V480 (pA V457) 7 0 0 := t479
                        have r482 : 0 ≤ ((V480 0 48)).toInt ∧ ((V480 0 48)).toInt ≤ 10000 := hMV480 0 48
                        have pq483 : (V457 0 49).toInt = ((V 0 49)).toInt := congrArg Int32.toInt ((ajV457 0 49 rfl).trans ((up2_k hV434 (by decide)).trans ((ajV292 0 49 rfl).trans (ajV17 0 49 rfl))))
                        have r484 : 0 ≤ ((V 0 49)).toInt ∧ ((V 0 49)).toInt ≤ 10000 := hMV 0 49
                        have hr485 : ∀ k, Rc gT (Crun gs (Isum gd :: k)) (Crun (emS sx463 7 0 0) (IsumR gd :: k)) := fun k => Rc.go1 (hr469 k) (m_em 7)
                        have rl486 : RelM V480 L458 bq gn gT sx463 gl := RelM.ag rl465 (show agr [(0, 48)] [45, 46, 47] V457 V480 from (agr.tr agr.rf ajV480 (by decide) (by decide))) (by decide) (show agL [] L458 L458 from agL.rf) (by decide)
                        have rl487 : RelM V480 L458 bq gn gT (emS sx463 7 0 0) gl := RelM.em rl486
                        have ps488 : (emS sx463 7 0 0).1 0 = sx463.1 0 := rfl
                        have fz489 := RelM.rg rl487
                        have pq490 : (V480 0 8).toInt = ((V457 0 8)).toInt := congrArg Int32.toInt (ajV480 0 8 rfl)
                        have pq491 : (V480 0 7).toInt = ((V457 0 7)).toInt := congrArg Int32.toInt (ajV480 0 7 rfl)
                        have cd492 : CDm V480 (10000 * bq) (emS sx463 7 0 0) := CDm.e0 cd468 t477 (ajV480 0 49 rfl) t479 (by decide) (by decide) (by decide) (by decide)
                        refine lv_istore_n (lv' := [(2, .int z474), (1, .int 7), (0, .ref (ad 0))]) hx hb dX12_sum_60 rfl hl (by decide) rfl (fun ls hl => ?_)
                        refine lv_goto (tgt := 4) hx hb dX12_sum_61 (by decide) ?_
                        have pq493 : (V480 0 50).toInt = ((V457 0 50)).toInt := congrArg Int32.toInt (ajV480 0 50 rfl)
                        have rw494 : RoV 35 bq V V480 := (fun k hk => ((ajV480 35 k rfl).trans ((t453 k hk).trans ((up2_o hV434 (by decide)).trans (xlp295_7 k hk)))))
                        have rw495 : RoV 37 bq V V480 := (fun k hk => ((ajV480 37 k rfl).trans ((t454 k hk).trans ((up2_o hV434 (by decide)).trans (xlp295_8 k hk)))))
                        have rw496 : RoL 36 20 bq L L458 := (fun k hk => ((t455 k hk).trans (xlp295_9 k hk)))
                        have rw497 : RoL 38 20 bq L L458 := (fun k hk => ((t456 k hk).trans (xlp295_10 k hk)))
                        exact ihlp295 (g294 - 1) V480 L458 H locs ls (Or.inl ⟨W0 rl487, (emS sx463 7 0 0), hr485, rl487, keepS.le (keepS.tr (keepS.tr (keepS.tr (keepS.tr (keepS.rf : keepS gs 0 gs) kq) (keepS.n1 1)) kp466) (show keepS sx463 0 (emS sx463 7 0 0) from keepS.em)) (by decide), (keepE.tr (keepE.tr (keepE.tr (keepE.tr (keepE.rf : keepE gs gs) eq9) (show keepE s1 (nx s1 1) from keepE.eq (show ∀ j9, 5 ≤ j9 → (nx s1 1).2.1 j9 = s1.2.1 j9 from fun _ _ => rfl))) ke467) (show keepE sx463 (emS sx463 7 0 0) from keepE.em)), cd492⟩) (show 0 ≤ (g294 - 1) from by first | omega | ((try (have i_t448 := Imp.go t448 (by omega))); (try (have i_xlp295_3 := Imp.go xlp295_3 (by omega))); (try (have i_xlp295_2 := Imp.go xlp295_2 (by omega))); (try (have i_t8 := Imp.go t8 (by omega))); first | omega | ((try (have i_t8 := Imp.go t8 (by omega))); (try (have i_xlp295_2 := Imp.go xlp295_2 (by omega))); (try (have i_xlp295_3 := Imp.go xlp295_3 (by omega))); (try (have i_t448 := Imp.go t448 (by omega))); omega))) (Imp.mk (fun hp => have hp : (V480 0 8).toInt = 0 := hp; (show (gn : Int) - (V480 0 7).toInt < (g294 - 1) from by first | exact om_67d12583fe7d hz433 pq440 t451 pq491 ((Imp.go xlp295_2 ((pq439.symm).trans (fz438.2.2.1)))) ((Imp.go t448 ((pq490.symm).trans (hp)))) | first | omega | ((try (have i_t448 := Imp.go t448 ((pq490.symm).trans (hp)))); omega) | ((try (have i_t448 := Imp.go t448 (by omega))); (try (have i_xlp295_3 := Imp.go xlp295_3 (by omega))); (try (have i_xlp295_2 := Imp.go xlp295_2 (by omega))); (try (have i_t8 := Imp.go t8 (by omega))); first | omega | ((try (have i_t8 := Imp.go t8 (by omega))); (try (have i_xlp295_2 := Imp.go xlp295_2 (by omega))); (try (have i_xlp295_3 := Imp.go xlp295_3 (by omega))); (try (have i_t448 := Imp.go t448 (by omega))); omega))))) (Imp.mk (fun hp => have hp : (V480 0 8).toInt = 0 := hp; (show (V480 0 48).toInt - (V 0 48).toInt ≤ 2 * ((V480 0 7).toInt - (V 0 7).toInt) from by first | exact om_24ed42d66743 hz433 pq440 pq441 t477 pq491 ((Imp.go xlp295_3 ((pq439.symm).trans (fz438.2.2.1)))) ((Imp.go t448 ((pq490.symm).trans (hp)))) | first | omega | ((try (have i_t448 := Imp.go t448 ((pq490.symm).trans (hp)))); omega) | ((try (have i_t448 := Imp.go t448 (by omega))); (try (have i_xlp295_3 := Imp.go xlp295_3 (by omega))); (try (have i_xlp295_2 := Imp.go xlp295_2 (by omega))); (try (have i_t8 := Imp.go t8 (by omega))); first | omega | ((try (have i_t8 := Imp.go t8 (by omega))); (try (have i_xlp295_2 := Imp.go xlp295_2 (by omega))); (try (have i_xlp295_3 := Imp.go xlp295_3 (by omega))); (try (have i_t448 := Imp.go t448 (by omega))); omega))))) (show (V480 0 48).toInt ≤ 8050 - 6 * (V 0 50).toInt from by first | exact om_c0d8f85437fe xlp295_5 pq442 t449 t477 | first | omega | ((try (have i_t448 := Imp.go t448 (by omega))); (try (have i_xlp295_3 := Imp.go xlp295_3 (by omega))); (try (have i_xlp295_2 := Imp.go xlp295_2 (by omega))); (try (have i_t8 := Imp.go t8 (by omega))); first | omega | ((try (have i_t8 := Imp.go t8 (by omega))); (try (have i_xlp295_2 := Imp.go xlp295_2 (by omega))); (try (have i_xlp295_3 := Imp.go xlp295_3 (by omega))); (try (have i_t448 := Imp.go t448 (by omega))); omega))) (show (V480 0 50).toInt = (V 0 50).toInt from by first | exact om_354a89fdc05f xlp295_5 pq442 t450 pq493 | first | omega | ((try (have i_t448 := Imp.go t448 (by omega))); (try (have i_xlp295_3 := Imp.go xlp295_3 (by omega))); (try (have i_xlp295_2 := Imp.go xlp295_2 (by omega))); (try (have i_t8 := Imp.go t8 (by omega))); first | omega | ((try (have i_t8 := Imp.go t8 (by omega))); (try (have i_xlp295_2 := Imp.go xlp295_2 (by omega))); (try (have i_xlp295_3 := Imp.go xlp295_3 (by omega))); (try (have i_t448 := Imp.go t448 (by omega))); omega))) (show (V 0 48).toInt ≤ (V480 0 48).toInt from by first | exact om_f68890bd9a1b xlp295_6 pq441 t451 t477 | first | omega | ((try (have i_t448 := Imp.go t448 (by omega))); (try (have i_xlp295_3 := Imp.go xlp295_3 (by omega))); (try (have i_xlp295_2 := Imp.go xlp295_2 (by omega))); (try (have i_t8 := Imp.go t8 (by omega))); first | omega | ((try (have i_t8 := Imp.go t8 (by omega))); (try (have i_xlp295_2 := Imp.go xlp295_2 (by omega))); (try (have i_xlp295_3 := Imp.go xlp295_3 (by omega))); (try (have i_t448 := Imp.go t448 (by omega))); omega))) rw494 rw495 rw496 rw497 (by first | exact om_5922346f4861 hn | first | omega | ((try (have i_t448 := Imp.go t448 (by omega))); (try (have i_xlp295_3 := Imp.go xlp295_3 (by omega))); (try (have i_xlp295_2 := Imp.go xlp295_2 (by omega))); (try (have i_t8 := Imp.go t8 (by omega))); first | omega | ((try (have i_t8 := Imp.go t8 (by omega))); (try (have i_xlp295_2 := Imp.go xlp295_2 (by omega))); (try (have i_xlp295_3 := Imp.go xlp295_3 (by omega))); (try (have i_t448 := Imp.go t448 (by omega))); omega))) alL458 (agr.tr (agr.tr (agr.up (agr.tr agr.rf ajV292 (by decide) (by decide)) hV434 rfl) ajV457 (by decide) (by decide)) ajV480 (by decide) (by decide)) hMV480 hP hD hS (lv_sub hl [2] rfl)
                      · skip
                        have hb498 : ∀ k, Rc gT (Crun gs (Isum gd :: k)) (Cbad (V457 0 8).toInt) := fun k => (hr435 k).tr (h464 (Iem 7 :: IsumR gd :: k))
                        refine lv_aload_n hx hb dX12_sum_53 rfl (lv_at hl 1 rfl) ?_
                        refine lv_iload_n hx hb dX12_sum_54 rfl (lv_at hl 0 rfl) ?_
                        refine lv_iconst (v := 0) hx hb dX12_sum_55 (by decide) ?_
                        refine lv_iconst (v := 0) hx hb dX12_sum_56 (by decide) ?_
                        have r499 : Int32.toInt 7 = 7 := by decide
                        have r500 : Int32.toInt 0 = 0 := by decide
                        refine gA_int (gA_runV (As := [.int 7, .int 0, .int 0]) (rest := []) (ci := 12) (q0 := 0) hx hb hml hown hg hP hD hK hS hA hnw hgk (s_emit3 l D ks H.size ad kk V457 L458 7 0 0 hMV457 (show (V457 0 48).toInt ≤ 9999 from by first | exact om_474d9bc6967f r2.1 xlp295_5 pq442 t449 | first | omega | ((try (have i_t448 := Imp.go t448 (by omega))); (try (have i_xlp295_3 := Imp.go xlp295_3 (by omega))); (try (have i_xlp295_2 := Imp.go xlp295_2 (by omega))); (try (have i_t8 := Imp.go t8 (by omega))); first | omega | ((try (have i_t8 := Imp.go t8 (by omega))); (try (have i_xlp295_2 := Imp.go xlp295_2 (by omega))); (try (have i_xlp295_3 := Imp.go xlp295_3 (by omega))); (try (have i_t448 := Imp.go t448 (by omega))); omega)))) w2136 w2138 w111 w172 w2139 rfl rfl hdV_yX12_emit ⟨(by show 0 + 1 ≤ 10 * dd + 12; (first | exact om_fdd9c7754232 | omega)), (by show 8 + (4 + 11) + (0) ≤ 300 * dd + 380; (first | exact om_87d12ca50388 | omega))⟩ rfl hl.1 rfl (Nat.le_of_ble_eq_true rfl) dX12_sum_57 ⟨Nat.le_of_ble_eq_true rfl, Nat.le_of_ble_eq_true rfl⟩) hP hD hK hS hA (fun z501 u502 H locs w503 hP hD hK hS => ?_)
                        obtain ⟨V507, L508⟩ := u502
                        obtain ⟨hMV507, ajV507, axL508, rgz501, t504, t505, t506⟩ := w503
                        have axL508 : L458 = L508 := Eq.symm axL508
                        subst axL508
                        have hP : va_P D vwCl (mw ad kk ks.1 V507 L458) H := hP
                        have hD : va_D A (mw ad kk ks.1 V507 L458) := hD
                        have hMV507 : rgd bM V507 := hMV507
                        have ajV507 : agr [(0, 48)] [45, 46, 47] V457 V507 := ajV507
                        have agV507 : agr [(0, 7), (0, 8), (0, 48), (0, 50)] [35, 36, 37, 38, 45, 46, 47] V V507 := agV457.tr ajV507 (by decide) (by decide)
                        have rgz501 : 0 ≤ z501.toInt ∧ z501.toInt ≤ 20000 := rgz501
                        have t504 : (V507 0 48).toInt = (V457 0 48).toInt + 1 := t504
                        have t505 : z501.toInt = (V457 0 49).toInt + (V457 0 48).toInt := t505
                        have t506 : emitted V457 V507 (pA V457) 7 0 0 := t506
                        have r509 : 0 ≤ ((V507 0 48)).toInt ∧ ((V507 0 48)).toInt ≤ 10000 := hMV507 0 48
                        have pq510 : (V457 0 49).toInt = ((V 0 49)).toInt := congrArg Int32.toInt ((ajV457 0 49 rfl).trans ((up2_k hV434 (by decide)).trans ((ajV292 0 49 rfl).trans (ajV17 0 49 rfl))))
                        have r511 : 0 ≤ ((V 0 49)).toInt ∧ ((V 0 49)).toInt ≤ 10000 := hMV 0 49
                        refine lv_istore_n (lv' := [(2, .int z501), (1, .int 7), (0, .ref (ad 0))]) hx hb dX12_sum_60 rfl hl (by decide) rfl (fun ls hl => ?_)
                        refine lv_goto (tgt := 4) hx hb dX12_sum_61 (by decide) ?_
                        have pq512 : (V507 0 7).toInt = ((V457 0 7)).toInt := congrArg Int32.toInt (ajV507 0 7 rfl)
                        have pq513 : (V507 0 8).toInt = ((V457 0 8)).toInt := congrArg Int32.toInt (ajV507 0 8 rfl)
                        have pq514 : (V507 0 50).toInt = ((V457 0 50)).toInt := congrArg Int32.toInt (ajV507 0 50 rfl)
                        have rw515 : RoV 35 bq V V507 := (fun k hk => ((ajV507 35 k rfl).trans ((t453 k hk).trans ((up2_o hV434 (by decide)).trans (xlp295_7 k hk)))))
                        have rw516 : RoV 37 bq V V507 := (fun k hk => ((ajV507 37 k rfl).trans ((t454 k hk).trans ((up2_o hV434 (by decide)).trans (xlp295_8 k hk)))))
                        have rw517 : RoL 36 20 bq L L458 := (fun k hk => ((t455 k hk).trans (xlp295_9 k hk)))
                        have rw518 : RoL 38 20 bq L L458 := (fun k hk => ((t456 k hk).trans (xlp295_10 k hk)))
                        exact ihlp295 (g294 - 1) V507 L458 H locs ls (Or.inr ⟨(show 1 ≤ (V507 0 8).toInt from by omega), (fun k => by rw [show (V507 0 8).toInt = (V457 0 8).toInt from by omega]; exact hb498 k)⟩) (show 0 ≤ (g294 - 1) from by first | omega | ((try (have i_t448 := Imp.go t448 (by omega))); (try (have i_xlp295_3 := Imp.go xlp295_3 (by omega))); (try (have i_xlp295_2 := Imp.go xlp295_2 (by omega))); (try (have i_t8 := Imp.go t8 (by omega))); first | omega | ((try (have i_t8 := Imp.go t8 (by omega))); (try (have i_xlp295_2 := Imp.go xlp295_2 (by omega))); (try (have i_xlp295_3 := Imp.go xlp295_3 (by omega))); (try (have i_t448 := Imp.go t448 (by omega))); omega))) (Imp.mk (fun hp => have hp : (V507 0 8).toInt = 0 := hp; (show (gn : Int) - (V507 0 7).toInt < (g294 - 1) from by first | exact om_67d12583fe7d hz433 pq440 t451 pq512 ((Imp.go xlp295_2 ((pq439.symm).trans (fz438.2.2.1)))) ((Imp.go t448 ((pq513.symm).trans (hp)))) | first | omega | ((try (have i_t448 := Imp.go t448 ((pq513.symm).trans (hp)))); omega) | ((try (have i_t448 := Imp.go t448 (by omega))); (try (have i_xlp295_3 := Imp.go xlp295_3 (by omega))); (try (have i_xlp295_2 := Imp.go xlp295_2 (by omega))); (try (have i_t8 := Imp.go t8 (by omega))); first | omega | ((try (have i_t8 := Imp.go t8 (by omega))); (try (have i_xlp295_2 := Imp.go xlp295_2 (by omega))); (try (have i_xlp295_3 := Imp.go xlp295_3 (by omega))); (try (have i_t448 := Imp.go t448 (by omega))); omega))))) (Imp.mk (fun hp => have hp : (V507 0 8).toInt = 0 := hp; (show (V507 0 48).toInt - (V 0 48).toInt ≤ 2 * ((V507 0 7).toInt - (V 0 7).toInt) from by first | exact om_24ed42d66743 hz433 pq440 pq441 t504 pq512 ((Imp.go xlp295_3 ((pq439.symm).trans (fz438.2.2.1)))) ((Imp.go t448 ((pq513.symm).trans (hp)))) | first | omega | ((try (have i_t448 := Imp.go t448 ((pq513.symm).trans (hp)))); omega) | ((try (have i_t448 := Imp.go t448 (by omega))); (try (have i_xlp295_3 := Imp.go xlp295_3 (by omega))); (try (have i_xlp295_2 := Imp.go xlp295_2 (by omega))); (try (have i_t8 := Imp.go t8 (by omega))); first | omega | ((try (have i_t8 := Imp.go t8 (by omega))); (try (have i_xlp295_2 := Imp.go xlp295_2 (by omega))); (try (have i_xlp295_3 := Imp.go xlp295_3 (by omega))); (try (have i_t448 := Imp.go t448 (by omega))); omega))))) (show (V507 0 48).toInt ≤ 8050 - 6 * (V 0 50).toInt from by first | exact om_c0d8f85437fe xlp295_5 pq442 t449 t504 | first | omega | ((try (have i_t448 := Imp.go t448 (by omega))); (try (have i_xlp295_3 := Imp.go xlp295_3 (by omega))); (try (have i_xlp295_2 := Imp.go xlp295_2 (by omega))); (try (have i_t8 := Imp.go t8 (by omega))); first | omega | ((try (have i_t8 := Imp.go t8 (by omega))); (try (have i_xlp295_2 := Imp.go xlp295_2 (by omega))); (try (have i_xlp295_3 := Imp.go xlp295_3 (by omega))); (try (have i_t448 := Imp.go t448 (by omega))); omega))) (show (V507 0 50).toInt = (V 0 50).toInt from by first | exact om_354a89fdc05f xlp295_5 pq442 t450 pq514 | first | omega | ((try (have i_t448 := Imp.go t448 (by omega))); (try (have i_xlp295_3 := Imp.go xlp295_3 (by omega))); (try (have i_xlp295_2 := Imp.go xlp295_2 (by omega))); (try (have i_t8 := Imp.go t8 (by omega))); first | omega | ((try (have i_t8 := Imp.go t8 (by omega))); (try (have i_xlp295_2 := Imp.go xlp295_2 (by omega))); (try (have i_xlp295_3 := Imp.go xlp295_3 (by omega))); (try (have i_t448 := Imp.go t448 (by omega))); omega))) (show (V 0 48).toInt ≤ (V507 0 48).toInt from by first | exact om_f68890bd9a1b xlp295_6 pq441 t451 t504 | first | omega | ((try (have i_t448 := Imp.go t448 (by omega))); (try (have i_xlp295_3 := Imp.go xlp295_3 (by omega))); (try (have i_xlp295_2 := Imp.go xlp295_2 (by omega))); (try (have i_t8 := Imp.go t8 (by omega))); first | omega | ((try (have i_t8 := Imp.go t8 (by omega))); (try (have i_xlp295_2 := Imp.go xlp295_2 (by omega))); (try (have i_xlp295_3 := Imp.go xlp295_3 (by omega))); (try (have i_t448 := Imp.go t448 (by omega))); omega))) rw515 rw516 rw517 rw518 (by first | exact om_5922346f4861 hn | first | omega | ((try (have i_t448 := Imp.go t448 (by omega))); (try (have i_xlp295_3 := Imp.go xlp295_3 (by omega))); (try (have i_xlp295_2 := Imp.go xlp295_2 (by omega))); (try (have i_t8 := Imp.go t8 (by omega))); first | omega | ((try (have i_t8 := Imp.go t8 (by omega))); (try (have i_xlp295_2 := Imp.go xlp295_2 (by omega))); (try (have i_xlp295_3 := Imp.go xlp295_3 (by omega))); (try (have i_t448 := Imp.go t448 (by omega))); omega))) alL458 (agr.tr (agr.tr (agr.up (agr.tr agr.rf ajV292 (by decide) (by decide)) hV434 rfl) ajV457 (by decide) (by decide)) ajV507 (by decide) (by decide)) hMV507 hP hD hS (lv_sub hl [2] rfl)
                    · skip
                      have f519 : z423.toInt ≠ 0 := b_neq rfl (by decide) c431
                      exfalso; first | exact om_fb320d7600b7 rgz423.1 q427 f519 | first | omega | ((try (have i_xlp295_3 := Imp.go xlp295_3 (by omega))); (try (have i_xlp295_2 := Imp.go xlp295_2 (by omega))); (try (have i_t8 := Imp.go t8 (by omega))); (try (have i_t8 := Imp.go t8 (by omega))); (try (have i_xlp295_2 := Imp.go xlp295_2 (by omega))); (try (have i_xlp295_3 := Imp.go xlp295_3 (by omega))); omega)
              · skip
                have kd520 : gT.1 (s1.1 0) ≠ 45 := fun h9 => h418 (h9.trans (by decide))
                refine lv_if_eq (tgt := 64) hx hb dX12_sum_19 (by decide) (fun c521 => ?_) (fun c521 => ?_)
                · skip
                  have f522 : z413.toInt = 0 := b_eq rfl (by decide) c521
                  have hr523 : ∀ k, Rc gT (Crun gs (Isum gd :: k)) (Crun s1 (k)) := fun k => Rc.go1 (hq k) (sumR_n gd kd408 kd520)
                  have rw524 : RoV 35 bq V V292 := (fun k hk => (xlp295_7 k hk))
                  have rw525 : RoV 37 bq V V292 := (fun k hk => (xlp295_8 k hk))
                  have rw526 : RoL 36 20 bq L L293 := (fun k hk => (xlp295_9 k hk))
                  have rw527 : RoL 38 20 bq L L293 := (fun k hk => (xlp295_10 k hk))
                  exact W.vret hx hb hr (fun t ht hW => ⟨⟨(V292, L293), rfl, ⟨hMV292, agV292, alL293, (Imp.mk (fun hp => have hp : (V292 0 8).toInt = 0 := hp; (show (V292 0 48).toInt - (V 0 48).toInt ≤ 2 * ((V292 0 7).toInt - (V 0 7).toInt) from by first | exact om_b91cb2530a91 ((Imp.go xlp295_3 (hp))) | first | omega | ((try (have i_xlp295_3 := Imp.go xlp295_3 (by omega))); (try (have i_xlp295_2 := Imp.go xlp295_2 (by omega))); (try (have i_t8 := Imp.go t8 (by omega))); (try (have i_t8 := Imp.go t8 (by omega))); (try (have i_xlp295_2 := Imp.go xlp295_2 (by omega))); (try (have i_xlp295_3 := Imp.go xlp295_3 (by omega))); omega)))), (show (V292 0 48).toInt ≤ 8050 - 6 * (V 0 50).toInt from by first | exact om_c3256b130b8f xlp295_4 | first | omega | ((try (have i_xlp295_3 := Imp.go xlp295_3 (by omega))); (try (have i_xlp295_2 := Imp.go xlp295_2 (by omega))); (try (have i_t8 := Imp.go t8 (by omega))); (try (have i_t8 := Imp.go t8 (by omega))); (try (have i_xlp295_2 := Imp.go xlp295_2 (by omega))); (try (have i_xlp295_3 := Imp.go xlp295_3 (by omega))); omega)), (show (V292 0 50).toInt = (V 0 50).toInt from by first | exact om_570b691c1130 xlp295_5 | first | omega | ((try (have i_xlp295_3 := Imp.go xlp295_3 (by omega))); (try (have i_xlp295_2 := Imp.go xlp295_2 (by omega))); (try (have i_t8 := Imp.go t8 (by omega))); (try (have i_t8 := Imp.go t8 (by omega))); (try (have i_xlp295_2 := Imp.go xlp295_2 (by omega))); (try (have i_xlp295_3 := Imp.go xlp295_3 (by omega))); omega)), (show (V 0 48).toInt ≤ (V292 0 48).toInt from by first | exact om_f4906d00fa52 xlp295_6 | first | omega | ((try (have i_xlp295_3 := Imp.go xlp295_3 (by omega))); (try (have i_xlp295_2 := Imp.go xlp295_2 (by omega))); (try (have i_t8 := Imp.go t8 (by omega))); (try (have i_t8 := Imp.go t8 (by omega))); (try (have i_xlp295_2 := Imp.go xlp295_2 (by omega))); (try (have i_xlp295_3 := Imp.go xlp295_3 (by omega))); omega)), (Or.inl ⟨W0 rq, s1, hr523, rq, keepS.le (keepS.tr (keepS.rf : keepS gs 0 gs) kq) (by decide), (keepE.tr (keepE.rf : keepE gs gs) eq9), dq9⟩), rw524, rw525, rw526, rw527⟩, by rw [ht]; exact hP, va_K.moved hW.alike hK, hD⟩, hS.F ht⟩) hS.2.2 dX12_sum_64
                · skip
                  have f528 : z413.toInt ≠ 0 := b_neq rfl (by decide) c521
                  exfalso; first | exact om_fb320d7600b7 rgz413.1 q417 f528 | first | omega | ((try (have i_xlp295_3 := Imp.go xlp295_3 (by omega))); (try (have i_xlp295_2 := Imp.go xlp295_2 (by omega))); (try (have i_t8 := Imp.go t8 (by omega))); (try (have i_t8 := Imp.go t8 (by omega))); (try (have i_xlp295_2 := Imp.go xlp295_2 (by omega))); (try (have i_xlp295_3 := Imp.go xlp295_3 (by omega))); omega)
        · skip
          refine lv_bipush (v := 43) hx hb dX12_sum_5 (by decide) ?_
          have r529 : Int32.toInt 43 = 43 := by decide
          refine gA_int (gA_runV (As := [.int 43]) (rest := []) (ci := 12) (q0 := 0) hx hb hml hown hg hP hD hK hS hA hnw hgk (s_isSignB l D ks H.size ad kk V292 L293 43 hMV292 (show 1 ≤ (V292 0 8).toInt from by first | exact om_f8d8213eda45 f8 | first | omega | ((try (have i_xlp295_3 := Imp.go xlp295_3 (by omega))); (try (have i_xlp295_2 := Imp.go xlp295_2 (by omega))); (try (have i_t8 := Imp.go t8 (by omega))); (try (have i_t8 := Imp.go t8 (by omega))); (try (have i_xlp295_2 := Imp.go xlp295_2 (by omega))); (try (have i_xlp295_3 := Imp.go xlp295_3 (by omega))); omega))) w2071 w2073 w95 w172 w2074 rfl rfl hdV_yX12_isSign ⟨(by show 0 + 1 ≤ 10 * dd + 12; (first | exact om_fdd9c7754232 | omega)), (by show 8 + (2 + 11) + (0) ≤ 300 * dd + 380; (first | exact om_1d76971512b8 | omega))⟩ rfl hl.1 rfl (Nat.le_of_ble_eq_true rfl) dX12_sum_7 ⟨Nat.le_of_ble_eq_true rfl, Nat.le_of_ble_eq_true rfl⟩) hP hD hK hS hA (fun z530 u531 H locs w532 hP hD hK hS => ?_)
          have rgz530 := w532
          have rgz530 : 0 ≤ z530.toInt ∧ z530.toInt ≤ 0 := rgz530
          refine lv_if_ne (tgt := 22) hx hb dX12_sum_10 (by decide) (fun c533 => ?_) (fun c533 => ?_)
          · skip
            have f534 : z530.toInt ≠ 0 := b_neq rfl (by decide) c533
            exfalso; first | exact om_0e608cc4b4f6 rgz530.1 rgz530.2 f534 | first | omega | ((try (have i_xlp295_3 := Imp.go xlp295_3 (by omega))); (try (have i_xlp295_2 := Imp.go xlp295_2 (by omega))); (try (have i_t8 := Imp.go t8 (by omega))); (try (have i_t8 := Imp.go t8 (by omega))); (try (have i_xlp295_2 := Imp.go xlp295_2 (by omega))); (try (have i_xlp295_3 := Imp.go xlp295_3 (by omega))); omega)
          · skip
            have f535 : z530.toInt = 0 := b_eq rfl (by decide) c533
            refine lv_aload_n hx hb dX12_sum_13 rfl (lv_at hl 0 rfl) ?_
            refine lv_bipush (v := 45) hx hb dX12_sum_14 (by decide) ?_
            have r536 : Int32.toInt 45 = 45 := by decide
            refine gA_int (gA_runV (As := [.int 45]) (rest := []) (ci := 12) (q0 := 0) hx hb hml hown hg hP hD hK hS hA hnw hgk (s_isSignB l D ks H.size ad kk V292 L293 45 hMV292 (show 1 ≤ (V292 0 8).toInt from by first | exact om_f8d8213eda45 f8 | first | omega | ((try (have i_xlp295_3 := Imp.go xlp295_3 (by omega))); (try (have i_xlp295_2 := Imp.go xlp295_2 (by omega))); (try (have i_t8 := Imp.go t8 (by omega))); (try (have i_t8 := Imp.go t8 (by omega))); (try (have i_xlp295_2 := Imp.go xlp295_2 (by omega))); (try (have i_xlp295_3 := Imp.go xlp295_3 (by omega))); omega))) w2071 w2073 w95 w172 w2074 rfl rfl hdV_yX12_isSign ⟨(by show 0 + 1 ≤ 10 * dd + 12; (first | exact om_fdd9c7754232 | omega)), (by show 8 + (2 + 11) + (0) ≤ 300 * dd + 380; (first | exact om_1d76971512b8 | omega))⟩ rfl hl.1 rfl (Nat.le_of_ble_eq_true rfl) dX12_sum_16 ⟨Nat.le_of_ble_eq_true rfl, Nat.le_of_ble_eq_true rfl⟩) hP hD hK hS hA (fun z537 u538 H locs w539 hP hD hK hS => ?_)
            have rgz537 := w539
            have rgz537 : 0 ≤ z537.toInt ∧ z537.toInt ≤ 0 := rgz537
            refine lv_if_eq (tgt := 64) hx hb dX12_sum_19 (by decide) (fun c540 => ?_) (fun c540 => ?_)
            · skip
              have f541 : z537.toInt = 0 := b_eq rfl (by decide) c540
              have rw542 : RoV 35 bq V V292 := (fun k hk => (xlp295_7 k hk))
              have rw543 : RoV 37 bq V V292 := (fun k hk => (xlp295_8 k hk))
              have rw544 : RoL 36 20 bq L L293 := (fun k hk => (xlp295_9 k hk))
              have rw545 : RoL 38 20 bq L L293 := (fun k hk => (xlp295_10 k hk))
              exact W.vret hx hb hr (fun t ht hW => ⟨⟨(V292, L293), rfl, ⟨hMV292, agV292, alL293, (Imp.mk (fun hp => have hp : (V292 0 8).toInt = 0 := hp; (show (V292 0 48).toInt - (V 0 48).toInt ≤ 2 * ((V292 0 7).toInt - (V 0 7).toInt) from by first | exact om_b91cb2530a91 ((Imp.go xlp295_3 (hp))) | first | omega | ((try (have i_xlp295_3 := Imp.go xlp295_3 (by omega))); (try (have i_xlp295_2 := Imp.go xlp295_2 (by omega))); (try (have i_t8 := Imp.go t8 (by omega))); (try (have i_t8 := Imp.go t8 (by omega))); (try (have i_xlp295_2 := Imp.go xlp295_2 (by omega))); (try (have i_xlp295_3 := Imp.go xlp295_3 (by omega))); omega)))), (show (V292 0 48).toInt ≤ 8050 - 6 * (V 0 50).toInt from by first | exact om_c3256b130b8f xlp295_4 | first | omega | ((try (have i_xlp295_3 := Imp.go xlp295_3 (by omega))); (try (have i_xlp295_2 := Imp.go xlp295_2 (by omega))); (try (have i_t8 := Imp.go t8 (by omega))); (try (have i_t8 := Imp.go t8 (by omega))); (try (have i_xlp295_2 := Imp.go xlp295_2 (by omega))); (try (have i_xlp295_3 := Imp.go xlp295_3 (by omega))); omega)), (show (V292 0 50).toInt = (V 0 50).toInt from by first | exact om_570b691c1130 xlp295_5 | first | omega | ((try (have i_xlp295_3 := Imp.go xlp295_3 (by omega))); (try (have i_xlp295_2 := Imp.go xlp295_2 (by omega))); (try (have i_t8 := Imp.go t8 (by omega))); (try (have i_t8 := Imp.go t8 (by omega))); (try (have i_xlp295_2 := Imp.go xlp295_2 (by omega))); (try (have i_xlp295_3 := Imp.go xlp295_3 (by omega))); omega)), (show (V 0 48).toInt ≤ (V292 0 48).toInt from by first | exact om_f4906d00fa52 xlp295_6 | first | omega | ((try (have i_xlp295_3 := Imp.go xlp295_3 (by omega))); (try (have i_xlp295_2 := Imp.go xlp295_2 (by omega))); (try (have i_t8 := Imp.go t8 (by omega))); (try (have i_t8 := Imp.go t8 (by omega))); (try (have i_xlp295_2 := Imp.go xlp295_2 (by omega))); (try (have i_xlp295_3 := Imp.go xlp295_3 (by omega))); omega)), (Or.inr ⟨(show 1 ≤ (V292 0 8).toInt from by (first | exact om_f8d8213eda45 f8 | omega)), hq⟩), rw542, rw543, rw544, rw545⟩, by rw [ht]; exact hP, va_K.moved hW.alike hK, hD⟩, hS.F ht⟩) hS.2.2 dX12_sum_64
            · skip
              have f546 : z537.toInt ≠ 0 := b_neq rfl (by decide) c540
              exfalso; first | exact om_0e608cc4b4f6 rgz537.1 rgz537.2 f546 | first | omega | ((try (have i_xlp295_3 := Imp.go xlp295_3 (by omega))); (try (have i_xlp295_2 := Imp.go xlp295_2 (by omega))); (try (have i_t8 := Imp.go t8 (by omega))); (try (have i_t8 := Imp.go t8 (by omega))); (try (have i_xlp295_2 := Imp.go xlp295_2 (by omega))); (try (have i_xlp295_3 := Imp.go xlp295_3 (by omega))); omega)
    have rw547 : RoV 35 bq V V17 := (fun k hk => ((t13 k hk).trans rfl))
    have rw548 : RoV 37 bq V V17 := (fun k hk => ((t14 k hk).trans rfl))
    have rw549 : RoL 36 20 bq L L18 := (fun k hk => ((t15 k hk).trans rfl))
    have rw550 : RoL 38 20 bq L L18 := (fun k hk => ((t16 k hk).trans rfl))
    exact lp295 ((((gn : Int) + 1) + 1 : Int).toNat) ((gn : Int) + 1) V17 L18 H locs ls (Or.inr ⟨(show 1 ≤ (V17 0 8).toInt from by omega), hb291⟩) (show 0 ≤ ((gn : Int) + 1) from by first | exact om_484f1d066a6d | first | omega | ((try (have i_t8 := Imp.go t8 (by omega))); omega)) (Imp.mk (fun hp => have hp : (V17 0 8).toInt = 0 := hp; (show (gn : Int) - (V17 0 7).toInt < ((gn : Int) + 1) from by first | exact om_ea4f048937c3 c1 r19.1 ((Imp.go t8 (hp))) | first | omega | ((try (have i_t8 := Imp.go t8 (by omega))); omega)))) (Imp.mk (fun hp => have hp : (V17 0 8).toInt = 0 := hp; (show (V17 0 48).toInt - (V 0 48).toInt ≤ 2 * ((V17 0 7).toInt - (V 0 7).toInt) from by first | exact om_b91cb2530a91 ((Imp.go t8 (hp))) | first | omega | ((try (have i_t8 := Imp.go t8 (by omega))); omega)))) (show (V17 0 48).toInt ≤ 8050 - 6 * (V 0 50).toInt from by first | exact om_c28235b0523b t9 | first | omega | ((try (have i_t8 := Imp.go t8 (by omega))); omega)) (show (V17 0 50).toInt = (V 0 50).toInt from by first | exact om_570b691c1130 t10 | first | omega | ((try (have i_t8 := Imp.go t8 (by omega))); omega)) (show (V 0 48).toInt ≤ (V17 0 48).toInt from by first | exact om_f4906d00fa52 t11 | first | omega | ((try (have i_t8 := Imp.go t8 (by omega))); omega)) rw547 rw548 rw549 rw550 (by first | exact om_e44dd51abc87 | first | omega | ((try (have i_t8 := Imp.go t8 (by omega))); omega)) alL18 agr.rf hMV17 hP hD hS (lv_sub hl [0] rfl)
set_option maxHeartbeats 4000000 in
set_option maxRecDepth 100000 in
theorem s_productA {l : Launch} {D : va_G} {ks : KS} {dd : Nat} (hk_s_partA : K_s_partA l D ks dd) : K_s_productA l D ks dd := by
  intro sz ad kk V L  bq gn gT gs gl gd hMV rel c1 yd c4 em cdm
  refine g_met (q_s_productA D ks ad kk V L  bq gn gT gs gl gd) (by decide) (Nat.le_of_ble_eq_true rfl) ?_
  intro p e s m below meth c A ls H locs hx hb hr hml hown hg hlocks hin hnw hgk hP hK hD hS hA hl
  have hown : s.vm.findClass RX12 = some m.cls := hown
  have hl : lv_has ls 2 [(0, .ref (ad 0))] := hl
  have hP : va_P D vwCl (mw ad kk ks.1 V L) H := hP
  have hD : va_D A (mw ad kk ks.1 V L) := hD
  have hK : va_K D vwCl (mty kk) s := hK
  have agV : agr [(0, 7), (0, 8), (0, 48), (0, 50)] [35, 36, 37, 38, 45, 46, 47] V V := agr.rf
  have alL : agL [35, 36, 37, 38, 45, 46, 47] L L := agL.rf
  have r1 : 0 ≤ ((V 0 48)).toInt ∧ ((V 0 48)).toInt ≤ 10000 := hMV 0 48
  have r2 : 0 ≤ ((V 0 50)).toInt ∧ ((V 0 50)).toInt ≤ 9 := hMV 0 50
  have rg0 := RelM.rg rel
  have cl0 := RelM.cl rel
  have cq0 := RelM.cq rel
  refine lv_aload_n hx hb dX12_product_0 rfl (lv_at hl 0 rfl) ?_
  have hr3 : ∀ k, Rc gT (Crun gs (Iprod gd :: k)) (Crun gs (Iprod gd :: k)) := fun k => Rc.rf
  have hr4 : ∀ k, Rc gT (Crun gs (Iprod gd :: k)) (Crun gs (Ipart gd :: IprodR gd :: k)) := fun k => Rc.go1 (hr3 k) (m_prod gd)
  refine gA_void (gA_runV (As := []) (rest := []) (ci := 12) (q0 := 0) hx hb hml hown hg hP hD hK hS hA hnw hgk (hk_s_partA H.size ad kk V L (bq) (gn) (gT) (gs) (gl) (gd) hMV rel (show (V 0 48).toInt ≤ 2 * (V 0 7).toInt from by (first | exact om_25cd5ecd1f71 c1 | omega)) (show (V 0 50).toInt = ((gd) : Int) from by (first | exact om_08e0c9701055 yd | omega)) (show (V 0 50).toInt + (dd : Int) = 8 from by (first | exact om_a46d3d9b9c91 c4 | omega)) em cdm) w2128 w2130 w109 w172 w2131 rfl rfl hdV_yX12_part ⟨(by show 10 * dd + 10 + 1 ≤ 10 * dd + 11; (first | exact om_1b07785c3efa | omega)), (by show 8 + (2 + 11) + (300 * dd + 300) ≤ 300 * dd + 340; (first | exact om_bc0d5f6b8c05 | omega))⟩ rfl hl.1 rfl (Nat.le_of_ble_eq_true rfl) dX12_product_1 ⟨Nat.le_of_ble_eq_true rfl, Nat.le_of_ble_eq_true rfl⟩) hP hD hK hS hA (fun u6 H locs w7 hP hD hK hS => ?_)
  obtain ⟨V17, L18⟩ := u6
  obtain ⟨hMV17, ajV17, axL18, t8, t9, t10, t11, t12, t13, t14, t15, t16⟩ := w7
  have alL18 : agL [35, 36, 37, 38, 45, 46, 47] L L18 := agL.tr alL axL18 (by decide)
  have hP : va_P D vwCl (mw ad kk ks.1 V17 L18) H := hP
  have hD : va_D A (mw ad kk ks.1 V17 L18) := hD
  have hMV17 : rgd bM V17 := hMV17
  have ajV17 : agr [(0, 7), (0, 8), (0, 48), (0, 50)] [35, 36, 37, 38, 45, 46, 47] V V17 := ajV17
  have agV17 : agr [(0, 7), (0, 8), (0, 48), (0, 50)] [35, 36, 37, 38, 45, 46, 47] V V17 := agV.tr ajV17 (by decide) (by decide)
  have t8 : Imp ((V17 0 8).toInt = 0) ((V17 0 48).toInt - (V 0 48).toInt ≤ 2 * ((V17 0 7).toInt - (V 0 7).toInt)) := t8
  have t9 : (V17 0 48).toInt ≤ 8048 - 6 * (V 0 50).toInt := t9
  have t10 : (V17 0 50).toInt = (V 0 50).toInt := t10
  have t11 : (V 0 48).toInt ≤ (V17 0 48).toInt := t11
  have t12 : RdM (gT) (gs) (fun k => Ipart (gd) :: k) (fun k => k) (V17 0 8).toInt (fun s9 => RelM V17 L18 (bq) (gn) (gT) s9 (gl) ∧ keepS (gs) 1 s9 ∧ keepE (gs) s9 ∧ CDm V17 (10000 * (bq)) s9) := t12
  have t13 : RoV 35 (bq) V V17 := t13
  have t14 : RoV 37 (bq) V V17 := t14
  have t15 : RoL 36 20 (bq) L L18 := t15
  have t16 : RoL 38 20 (bq) L L18 := t16
  have r19 : 0 ≤ ((V17 0 48)).toInt ∧ ((V17 0 48)).toInt ≤ 10000 := hMV17 0 48
  have r20 : 0 ≤ ((V17 0 8)).toInt ∧ ((V17 0 8)).toInt ≤ 70000 := hMV17 0 8
  have r21 : 0 ≤ ((V17 0 50)).toInt ∧ ((V17 0 50)).toInt ≤ 9 := hMV17 0 50
  rcases t12 with ⟨q22, sx23, h24, rl25, kp26, ke27, cd28⟩ | ⟨q22, h24⟩
  · skip
    have hr29 : ∀ k, Rc gT (Crun gs (Iprod gd :: k)) (Crun sx23 (IprodR gd :: k)) := fun k => (hr4 k).tr (h24 (IprodR gd :: k))
    have fz30 := RelM.rg rl25
    have ps31 := (kp26).1
    have lp35 : ∀ (fulp35 : Nat) (g34 : Int) (V32 : Vf) (L33 : Lf) (H : Heap) (locs : List Loc) (ls : Array Slot), (((V32 0 8).toInt = 0 ∧ ∃ s1 : St, (∀ k, Rc gT (Crun gs (Iprod gd :: k)) (Crun s1 (IprodR gd :: k))) ∧ RelM V32 L33 bq gn gT s1 gl ∧ keepS gs 1 s1 ∧ keepE gs s1 ∧ CDm V32 (10000 * bq) s1) ∨ (1 ≤ (V32 0 8).toInt ∧ ∀ k, Rc gT (Crun gs (Iprod gd :: k)) (Cbad (V32 0 8).toInt))) → 0 ≤ g34 → Imp ((V32 0 8).toInt = 0) ((gn : Int) - (V32 0 7).toInt < g34) → Imp ((V32 0 8).toInt = 0) ((V32 0 48).toInt - (V 0 48).toInt ≤ 2 * ((V32 0 7).toInt - (V 0 7).toInt)) → (V32 0 48).toInt ≤ 8049 - 6 * (V 0 50).toInt → (V32 0 50).toInt = (V 0 50).toInt → (V 0 48).toInt ≤ (V32 0 48).toInt → (RoV 35 bq V V32) → (RoV 37 bq V V32) → (RoL 36 20 bq L L33) → (RoL 38 20 bq L L33) → g34 < (fulp35 : Int) → agL [35, 36, 37, 38, 45, 46, 47] L L33 → agr [(0, 7), (0, 8), (0, 48), (0, 50)] [35, 36, 37, 38, 45, 46, 47] V17 V32 → rgd bM V32 → va_P D vwCl (mw ad kk ks.1 V32 L33) H → va_D A (mw ad kk ks.1 V32 L33) → va_S A s.heap H locs → lv_has ls 2 [(0, .ref (ad 0))] → W p l e (rK 11 340 dd) s m ([.ref (ad 0)] : List Value).toArray below meth c H locs 0 0 (MQ below (q_s_productA D ks ad kk V L  bq gn gT gs gl gd A) ([.ref (ad 0)] : List Value).toArray s 0 0 A) (F0 m 4 ls []) := by
      intro fulp35
      induction fulp35 with
      | zero =>
        intro g34 V32 L33 H locs ls xlp35_0 xlp35_1 xlp35_2 xlp35_3 xlp35_4 xlp35_5 xlp35_6 xlp35_7 xlp35_8 xlp35_9 xlp35_10 hn alL33 ajV32 hMV32 hP hD hS hl
        exfalso; (first | exact om_21e89d3d06d7 xlp35_1 hn | omega)
      | succ fulp35 ihlp35 =>
        intro g34 V32 L33 H locs ls xlp35_0 xlp35_1 xlp35_2 xlp35_3 xlp35_4 xlp35_5 xlp35_6 xlp35_7 xlp35_8 xlp35_9 xlp35_10 hn alL33 ajV32 hMV32 hP hD hS hl
        have agV32 : agr [(0, 7), (0, 8), (0, 48), (0, 50)] [35, 36, 37, 38, 45, 46, 47] V V32 := agV17.tr ajV32 (by decide) (by decide)
        have r36 : 0 ≤ ((V32 0 8)).toInt ∧ ((V32 0 8)).toInt ≤ 70000 := hMV32 0 8
        have r37 : 0 ≤ ((V32 0 48)).toInt ∧ ((V32 0 48)).toInt ≤ 10000 := hMV32 0 48
        have r38 : 0 ≤ ((V32 0 50)).toInt ∧ ((V32 0 50)).toInt ≤ 9 := hMV32 0 50
        refine lv_aload_n hx hb dX12_product_4 rfl (lv_at hl 0 rfl) ?_
        rcases xlp35_0 with ⟨f8, s1, hq, rq, kq, eq9, dq9⟩ | ⟨f8, hq⟩
        · skip
          have fz39 := RelM.rg rq
          refine lv_bipush (v := 42) hx hb dX12_product_5 (by decide) ?_
          have r40 : Int32.toInt 42 = 42 := by decide
          refine gA_int (gA_runV (As := [.int 42]) (rest := []) (ci := 12) (q0 := 0) hx hb hml hown hg hP hD hK hS hA hnw hgk (s_hasSignA l D ks H.size ad kk V32 L33 42 (bq) (gn) (gT) (s1) (gl) hMV32 rq (sg_yes (j := 42) (by decide) (by decide) (by decide))) w2067 w2069 w94 w172 w2070 rfl rfl hdV_yX12_hasSign ⟨(by show 1 + 1 ≤ 10 * dd + 11; (first | exact om_79e501bad51d | omega)), (by show 8 + (3 + 11) + (21) ≤ 300 * dd + 340; (first | exact om_81d3c60f550f | omega))⟩ rfl hl.1 rfl (Nat.le_of_ble_eq_true rfl) dX12_product_7 ⟨Nat.le_of_ble_eq_true rfl, Nat.le_of_ble_eq_true rfl⟩) hP hD hK hS hA (fun z41 u42 H locs w43 hP hD hK hS => ?_)
          obtain ⟨V45, L46⟩ := u42
          obtain ⟨hMV45, ajV45, axL46, rgz41, t44⟩ := w43
          have axL46 : L33 = L46 := Eq.symm axL46
          subst axL46
          have hP : va_P D vwCl (mw ad kk ks.1 V45 L33) H := hP
          have hD : va_D A (mw ad kk ks.1 V45 L33) := hD
          have hMV45 : rgd bM V45 := hMV45
          have ajV45 : agr [(0, 7)] [] V32 V45 := ajV45
          have agV45 : agr [(0, 7), (0, 8), (0, 48), (0, 50)] [35, 36, 37, 38, 45, 46, 47] V V45 := agV32.tr ajV45 (by decide) (by decide)
          have rgz41 : 0 ≤ z41.toInt ∧ z41.toInt ≤ 1 := rgz41
          have t44 : (z41.toInt = 1 ∧ (gT).1 ((s1).1 0) = (Int32.toInt 42) ∧ RelM V45 L33 (bq) (gn) (gT) (nx (s1) 1) (gl)) ∨ (z41.toInt = 0 ∧ (gT).1 ((s1).1 0) ≠ (Int32.toInt 42) ∧ RelM V45 L33 (bq) (gn) (gT) (s1) (gl)) := t44
          rcases t44 with ⟨q47, h48, rl49⟩ | ⟨q47, h48, rl49⟩
          · skip
            have kd50 : gT.1 (s1.1 0) = 42 := h48.trans (by decide)
            have hr51 : ∀ k, Rc gT (Crun gs (Iprod gd :: k)) (Crun (nx s1 1) (Ipart gd :: Iem 5 :: IprodR gd :: k)) := fun k => Rc.go1 (hq k) (prodR_42 gd kd50)
            have ps52 : (nx s1 1).1 0 = s1.1 0 + 1 := rfl
            have fz53 := RelM.rg rl49
            have pq54 : (V45 0 8).toInt = ((V32 0 8)).toInt := congrArg Int32.toInt (ajV45 0 8 rfl)
            refine lv_if_eq (tgt := 28) hx hb dX12_product_10 (by decide) (fun c55 => ?_) (fun c55 => ?_)
            · skip
              have f56 : z41.toInt = 0 := b_eq rfl (by decide) c55
              exfalso; first | exact om_495ee03a60ae q47 f56 | first | omega | ((try (have i_xlp35_3 := Imp.go xlp35_3 (by omega))); (try (have i_xlp35_2 := Imp.go xlp35_2 (by omega))); (try (have i_t8 := Imp.go t8 (by omega))); (try (have i_t8 := Imp.go t8 (by omega))); (try (have i_xlp35_2 := Imp.go xlp35_2 (by omega))); (try (have i_xlp35_3 := Imp.go xlp35_3 (by omega))); omega)
            · skip
              have f57 : z41.toInt ≠ 0 := b_neq rfl (by decide) c55
              refine lv_aload_n hx hb dX12_product_13 rfl (lv_at hl 0 rfl) ?_
              have pq58 : (V45 0 48).toInt = ((V32 0 48)).toInt := congrArg Int32.toInt (ajV45 0 48 rfl)
              have pq59 : (V45 0 50).toInt = ((V32 0 50)).toInt := congrArg Int32.toInt (ajV45 0 50 rfl)
              have cd60 : CDm V45 (10000 * bq) s1 := CDm.ag dq9 (show agr [(0, 7)] [] V32 V45 from (agr.tr agr.rf ajV45 (by decide) (by decide))) ⟨rfl, rfl, fun _ => ⟨rfl, rfl, rfl⟩⟩
              have cd61 : CDm V45 (10000 * bq) (nx s1 1) := CDm.mv cd60 (show ∀ j9, j9 = 5 ∨ 2000 ≤ j9 → (nx s1 1).2.1 j9 = s1.2.1 j9 from fun j9 h9 => (show ∀ j9, 5 ≤ j9 → (nx s1 1).2.1 j9 = s1.2.1 j9 from fun _ _ => rfl) j9 (by omega))
              refine gA_void (gA_runV (As := []) (rest := []) (ci := 12) (q0 := 0) hx hb hml hown hg hP hD hK hS hA hnw hgk (hk_s_partA H.size ad kk V45 L33 (bq) (gn) (gT) ((nx s1 1)) (gl) (gd) hMV45 rl49 (show (V45 0 48).toInt ≤ 2 * (V45 0 7).toInt from by first | omega | ((try (have i_xlp35_3 := Imp.go xlp35_3 (by omega))); (try (have i_xlp35_2 := Imp.go xlp35_2 (by omega))); (try (have i_t8 := Imp.go t8 (by omega))); (try (have i_t8 := Imp.go t8 (by omega))); (try (have i_xlp35_2 := Imp.go xlp35_2 (by omega))); (try (have i_xlp35_3 := Imp.go xlp35_3 (by omega))); omega)) (show (V45 0 50).toInt = ((gd) : Int) from by first | exact om_047d18a7ea93 yd xlp35_5 pq59 | first | omega | ((try (have i_xlp35_3 := Imp.go xlp35_3 (by omega))); (try (have i_xlp35_2 := Imp.go xlp35_2 (by omega))); (try (have i_t8 := Imp.go t8 (by omega))); (try (have i_t8 := Imp.go t8 (by omega))); (try (have i_xlp35_2 := Imp.go xlp35_2 (by omega))); (try (have i_xlp35_3 := Imp.go xlp35_3 (by omega))); omega)) (show (V45 0 50).toInt + (dd : Int) = 8 from by first | exact om_cf161be9456d c4 xlp35_5 pq59 | first | omega | ((try (have i_xlp35_3 := Imp.go xlp35_3 (by omega))); (try (have i_xlp35_2 := Imp.go xlp35_2 (by omega))); (try (have i_t8 := Imp.go t8 (by omega))); (try (have i_t8 := Imp.go t8 (by omega))); (try (have i_xlp35_2 := Imp.go xlp35_2 (by omega))); (try (have i_xlp35_3 := Imp.go xlp35_3 (by omega))); omega)) (EM.mv em ((ajV45 0 51 rfl).trans ((ajV32 0 51 rfl).trans (ajV17 0 51 rfl))) ((ajV45 0 52 rfl).trans ((ajV32 0 52 rfl).trans (ajV17 0 52 rfl))) (by rw [(funext (fun q => ajV45 27 q rfl) : V45 27 = V32 27), (funext (fun q => ajV32 27 q rfl) : V32 27 = V17 27), (funext (fun q => ajV17 27 q rfl) : V17 27 = V 27)] : V45 27 = V 27) ((keepS.tr (keepS.tr (keepS.rf : keepS gs 0 gs) kq) (keepS.n1 1))).2.1) cd61) w2128 w2130 w109 w172 w2131 rfl rfl hdV_yX12_part ⟨(by show 10 * dd + 10 + 1 ≤ 10 * dd + 11; (first | exact om_1b07785c3efa | omega)), (by show 8 + (2 + 11) + (300 * dd + 300) ≤ 300 * dd + 340; (first | exact om_bc0d5f6b8c05 | omega))⟩ rfl hl.1 rfl (Nat.le_of_ble_eq_true rfl) dX12_product_14 ⟨Nat.le_of_ble_eq_true rfl, Nat.le_of_ble_eq_true rfl⟩) hP hD hK hS hA (fun u63 H locs w64 hP hD hK hS => ?_)
              obtain ⟨V74, L75⟩ := u63
              obtain ⟨hMV74, ajV74, axL75, t65, t66, t67, t68, t69, t70, t71, t72, t73⟩ := w64
              have alL75 : agL [35, 36, 37, 38, 45, 46, 47] L L75 := agL.tr alL33 axL75 (by decide)
              have hP : va_P D vwCl (mw ad kk ks.1 V74 L75) H := hP
              have hD : va_D A (mw ad kk ks.1 V74 L75) := hD
              have hMV74 : rgd bM V74 := hMV74
              have ajV74 : agr [(0, 7), (0, 8), (0, 48), (0, 50)] [35, 36, 37, 38, 45, 46, 47] V45 V74 := ajV74
              have agV74 : agr [(0, 7), (0, 8), (0, 48), (0, 50)] [35, 36, 37, 38, 45, 46, 47] V V74 := agV45.tr ajV74 (by decide) (by decide)
              have t65 : Imp ((V74 0 8).toInt = 0) ((V74 0 48).toInt - (V45 0 48).toInt ≤ 2 * ((V74 0 7).toInt - (V45 0 7).toInt)) := t65
              have t66 : (V74 0 48).toInt ≤ 8048 - 6 * (V45 0 50).toInt := t66
              have t67 : (V74 0 50).toInt = (V45 0 50).toInt := t67
              have t68 : (V45 0 48).toInt ≤ (V74 0 48).toInt := t68
              have t69 : RdM (gT) ((nx s1 1)) (fun k => Ipart (gd) :: k) (fun k => k) (V74 0 8).toInt (fun s9 => RelM V74 L75 (bq) (gn) (gT) s9 (gl) ∧ keepS ((nx s1 1)) 1 s9 ∧ keepE ((nx s1 1)) s9 ∧ CDm V74 (10000 * (bq)) s9) := t69
              have t70 : RoV 35 (bq) V45 V74 := t70
              have t71 : RoV 37 (bq) V45 V74 := t71
              have t72 : RoL 36 20 (bq) L33 L75 := t72
              have t73 : RoL 38 20 (bq) L33 L75 := t73
              have r76 : 0 ≤ ((V74 0 48)).toInt ∧ ((V74 0 48)).toInt ≤ 10000 := hMV74 0 48
              have r77 : 0 ≤ ((V74 0 8)).toInt ∧ ((V74 0 8)).toInt ≤ 70000 := hMV74 0 8
              have r78 : 0 ≤ ((V74 0 50)).toInt ∧ ((V74 0 50)).toInt ≤ 9 := hMV74 0 50
              rcases t69 with ⟨q79, sx80, h81, rl82, kp83, ke84, cd85⟩ | ⟨q79, h81⟩
              · skip
                have hr86 : ∀ k, Rc gT (Crun gs (Iprod gd :: k)) (Crun sx80 (Iem 5 :: IprodR gd :: k)) := fun k => (hr51 k).tr (h81 (Iem 5 :: IprodR gd :: k))
                have fz87 := RelM.rg rl82
                have ps88 := (kp83).1
                refine lv_aload_n hx hb dX12_product_17 rfl (lv_at hl 0 rfl) ?_
                refine lv_iconst (v := 5) hx hb dX12_product_18 (by decide) ?_
                refine lv_iconst (v := 0) hx hb dX12_product_19 (by decide) ?_
                refine lv_iconst (v := 0) hx hb dX12_product_20 (by decide) ?_
                have r89 : Int32.toInt 5 = 5 := by decide
                have r90 : Int32.toInt 0 = 0 := by decide
                refine gA_int (gA_runV (As := [.int 5, .int 0, .int 0]) (rest := []) (ci := 12) (q0 := 0) hx hb hml hown hg hP hD hK hS hA hnw hgk (s_emit3 l D ks H.size ad kk V74 L75 5 0 0 hMV74 (show (V74 0 48).toInt ≤ 9999 from by first | exact om_2ac6836f37af r2.1 xlp35_5 pq59 t66 | first | omega | ((try (have i_t65 := Imp.go t65 (by omega))); (try (have i_xlp35_3 := Imp.go xlp35_3 (by omega))); (try (have i_xlp35_2 := Imp.go xlp35_2 (by omega))); (try (have i_t8 := Imp.go t8 (by omega))); first | omega | ((try (have i_t8 := Imp.go t8 (by omega))); (try (have i_xlp35_2 := Imp.go xlp35_2 (by omega))); (try (have i_xlp35_3 := Imp.go xlp35_3 (by omega))); (try (have i_t65 := Imp.go t65 (by omega))); omega)))) w2136 w2138 w111 w172 w2139 rfl rfl hdV_yX12_emit ⟨(by show 0 + 1 ≤ 10 * dd + 11; (first | exact om_081698dbc30d | omega)), (by show 8 + (4 + 11) + (0) ≤ 300 * dd + 340; (first | exact om_40dc8202cd21 | omega))⟩ rfl hl.1 rfl (Nat.le_of_ble_eq_true rfl) dX12_product_21 ⟨Nat.le_of_ble_eq_true rfl, Nat.le_of_ble_eq_true rfl⟩) hP hD hK hS hA (fun z91 u92 H locs w93 hP hD hK hS => ?_)
                obtain ⟨V97, L98⟩ := u92
                obtain ⟨hMV97, ajV97, axL98, rgz91, t94, t95, t96⟩ := w93
                have axL98 : L75 = L98 := Eq.symm axL98
                subst axL98
                have hP : va_P D vwCl (mw ad kk ks.1 V97 L75) H := hP
                have hD : va_D A (mw ad kk ks.1 V97 L75) := hD
                have hMV97 : rgd bM V97 := hMV97
                have ajV97 : agr [(0, 48)] [45, 46, 47] V74 V97 := ajV97
                have agV97 : agr [(0, 7), (0, 8), (0, 48), (0, 50)] [35, 36, 37, 38, 45, 46, 47] V V97 := agV74.tr ajV97 (by decide) (by decide)
                have rgz91 : 0 ≤ z91.toInt ∧ z91.toInt ≤ 20000 := rgz91
                have t94 : (V97 0 48).toInt = (V74 0 48).toInt + 1 := t94
                have t95 : z91.toInt = (V74 0 49).toInt + (V74 0 48).toInt := t95
                have t96 : emitted V74 V97 (pA V74) 5 0 0 := t96
                have r99 : 0 ≤ ((V97 0 48)).toInt ∧ ((V97 0 48)).toInt ≤ 10000 := hMV97 0 48
                have pq100 : (V74 0 49).toInt = ((V 0 49)).toInt := congrArg Int32.toInt ((ajV74 0 49 rfl).trans ((ajV45 0 49 rfl).trans ((ajV32 0 49 rfl).trans (ajV17 0 49 rfl))))
                have r101 : 0 ≤ ((V 0 49)).toInt ∧ ((V 0 49)).toInt ≤ 10000 := hMV 0 49
                have hr102 : ∀ k, Rc gT (Crun gs (Iprod gd :: k)) (Crun (emS sx80 5 0 0) (IprodR gd :: k)) := fun k => Rc.go1 (hr86 k) (m_em 5)
                have rl103 : RelM V97 L75 bq gn gT sx80 gl := RelM.ag rl82 (show agr [(0, 48)] [45, 46, 47] V74 V97 from (agr.tr agr.rf ajV97 (by decide) (by decide))) (by decide) (show agL [] L75 L75 from agL.rf) (by decide)
                have rl104 : RelM V97 L75 bq gn gT (emS sx80 5 0 0) gl := RelM.em rl103
                have ps105 : (emS sx80 5 0 0).1 0 = sx80.1 0 := rfl
                have fz106 := RelM.rg rl104
                have pq107 : (V97 0 8).toInt = ((V74 0 8)).toInt := congrArg Int32.toInt (ajV97 0 8 rfl)
                have pq108 : (V97 0 7).toInt = ((V74 0 7)).toInt := congrArg Int32.toInt (ajV97 0 7 rfl)
                have cd109 : CDm V97 (10000 * bq) (emS sx80 5 0 0) := CDm.e0 cd85 t94 (ajV97 0 49 rfl) t96 (by decide) (by decide) (by decide) (by decide)
                refine lv_istore_n (lv' := [(1, .int z91), (0, .ref (ad 0))]) hx hb dX12_product_24 rfl hl (by decide) rfl (fun ls hl => ?_)
                refine lv_goto (tgt := 4) hx hb dX12_product_25 (by decide) ?_
                have pq110 : (V97 0 50).toInt = ((V74 0 50)).toInt := congrArg Int32.toInt (ajV97 0 50 rfl)
                have rw111 : RoV 35 bq V V97 := (fun k hk => ((ajV97 35 k rfl).trans ((t70 k hk).trans ((ajV45 35 k rfl).trans (xlp35_7 k hk)))))
                have rw112 : RoV 37 bq V V97 := (fun k hk => ((ajV97 37 k rfl).trans ((t71 k hk).trans ((ajV45 37 k rfl).trans (xlp35_8 k hk)))))
                have rw113 : RoL 36 20 bq L L75 := (fun k hk => ((t72 k hk).trans (xlp35_9 k hk)))
                have rw114 : RoL 38 20 bq L L75 := (fun k hk => ((t73 k hk).trans (xlp35_10 k hk)))
                exact ihlp35 (g34 - 1) V97 L75 H locs ls (Or.inl ⟨W0 rl104, (emS sx80 5 0 0), hr102, rl104, keepS.le (keepS.tr (keepS.tr (keepS.tr (keepS.tr (keepS.rf : keepS gs 0 gs) kq) (keepS.n1 1)) kp83) (show keepS sx80 0 (emS sx80 5 0 0) from keepS.em)) (by decide), (keepE.tr (keepE.tr (keepE.tr (keepE.tr (keepE.rf : keepE gs gs) eq9) (show keepE s1 (nx s1 1) from keepE.eq (show ∀ j9, 5 ≤ j9 → (nx s1 1).2.1 j9 = s1.2.1 j9 from fun _ _ => rfl))) ke84) (show keepE sx80 (emS sx80 5 0 0) from keepE.em)), cd109⟩) (show 0 ≤ (g34 - 1) from by first | omega | ((try (have i_t65 := Imp.go t65 (by omega))); (try (have i_xlp35_3 := Imp.go xlp35_3 (by omega))); (try (have i_xlp35_2 := Imp.go xlp35_2 (by omega))); (try (have i_t8 := Imp.go t8 (by omega))); first | omega | ((try (have i_t8 := Imp.go t8 (by omega))); (try (have i_xlp35_2 := Imp.go xlp35_2 (by omega))); (try (have i_xlp35_3 := Imp.go xlp35_3 (by omega))); (try (have i_t65 := Imp.go t65 (by omega))); omega))) (Imp.mk (fun hp => have hp : (V97 0 8).toInt = 0 := hp; (show (gn : Int) - (V97 0 7).toInt < (g34 - 1) from by first | omega | ((try (have i_t65 := Imp.go t65 ((pq107.symm).trans (hp)))); omega) | ((try (have i_t65 := Imp.go t65 (by omega))); (try (have i_xlp35_3 := Imp.go xlp35_3 (by omega))); (try (have i_xlp35_2 := Imp.go xlp35_2 (by omega))); (try (have i_t8 := Imp.go t8 (by omega))); first | omega | ((try (have i_t8 := Imp.go t8 (by omega))); (try (have i_xlp35_2 := Imp.go xlp35_2 (by omega))); (try (have i_xlp35_3 := Imp.go xlp35_3 (by omega))); (try (have i_t65 := Imp.go t65 (by omega))); omega))))) (Imp.mk (fun hp => have hp : (V97 0 8).toInt = 0 := hp; (show (V97 0 48).toInt - (V 0 48).toInt ≤ 2 * ((V97 0 7).toInt - (V 0 7).toInt) from by first | omega | ((try (have i_t65 := Imp.go t65 ((pq107.symm).trans (hp)))); omega) | ((try (have i_t65 := Imp.go t65 (by omega))); (try (have i_xlp35_3 := Imp.go xlp35_3 (by omega))); (try (have i_xlp35_2 := Imp.go xlp35_2 (by omega))); (try (have i_t8 := Imp.go t8 (by omega))); first | omega | ((try (have i_t8 := Imp.go t8 (by omega))); (try (have i_xlp35_2 := Imp.go xlp35_2 (by omega))); (try (have i_xlp35_3 := Imp.go xlp35_3 (by omega))); (try (have i_t65 := Imp.go t65 (by omega))); omega))))) (show (V97 0 48).toInt ≤ 8049 - 6 * (V 0 50).toInt from by first | exact om_b0dfc321db86 xlp35_5 pq59 t66 t94 | first | omega | ((try (have i_t65 := Imp.go t65 (by omega))); (try (have i_xlp35_3 := Imp.go xlp35_3 (by omega))); (try (have i_xlp35_2 := Imp.go xlp35_2 (by omega))); (try (have i_t8 := Imp.go t8 (by omega))); first | omega | ((try (have i_t8 := Imp.go t8 (by omega))); (try (have i_xlp35_2 := Imp.go xlp35_2 (by omega))); (try (have i_xlp35_3 := Imp.go xlp35_3 (by omega))); (try (have i_t65 := Imp.go t65 (by omega))); omega))) (show (V97 0 50).toInt = (V 0 50).toInt from by first | exact om_354a89fdc05f xlp35_5 pq59 t67 pq110 | first | omega | ((try (have i_t65 := Imp.go t65 (by omega))); (try (have i_xlp35_3 := Imp.go xlp35_3 (by omega))); (try (have i_xlp35_2 := Imp.go xlp35_2 (by omega))); (try (have i_t8 := Imp.go t8 (by omega))); first | omega | ((try (have i_t8 := Imp.go t8 (by omega))); (try (have i_xlp35_2 := Imp.go xlp35_2 (by omega))); (try (have i_xlp35_3 := Imp.go xlp35_3 (by omega))); (try (have i_t65 := Imp.go t65 (by omega))); omega))) (show (V 0 48).toInt ≤ (V97 0 48).toInt from by first | exact om_f68890bd9a1b xlp35_6 pq58 t68 t94 | first | omega | ((try (have i_t65 := Imp.go t65 (by omega))); (try (have i_xlp35_3 := Imp.go xlp35_3 (by omega))); (try (have i_xlp35_2 := Imp.go xlp35_2 (by omega))); (try (have i_t8 := Imp.go t8 (by omega))); first | omega | ((try (have i_t8 := Imp.go t8 (by omega))); (try (have i_xlp35_2 := Imp.go xlp35_2 (by omega))); (try (have i_xlp35_3 := Imp.go xlp35_3 (by omega))); (try (have i_t65 := Imp.go t65 (by omega))); omega))) rw111 rw112 rw113 rw114 (by first | exact om_5922346f4861 hn | first | omega | ((try (have i_t65 := Imp.go t65 (by omega))); (try (have i_xlp35_3 := Imp.go xlp35_3 (by omega))); (try (have i_xlp35_2 := Imp.go xlp35_2 (by omega))); (try (have i_t8 := Imp.go t8 (by omega))); first | omega | ((try (have i_t8 := Imp.go t8 (by omega))); (try (have i_xlp35_2 := Imp.go xlp35_2 (by omega))); (try (have i_xlp35_3 := Imp.go xlp35_3 (by omega))); (try (have i_t65 := Imp.go t65 (by omega))); omega))) alL75 (agr.tr (agr.tr (agr.tr (agr.tr agr.rf ajV32 (by decide) (by decide)) ajV45 (by decide) (by decide)) ajV74 (by decide) (by decide)) ajV97 (by decide) (by decide)) hMV97 hP hD hS (lv_sub hl [1] rfl)
              · skip
                have hb115 : ∀ k, Rc gT (Crun gs (Iprod gd :: k)) (Cbad (V74 0 8).toInt) := fun k => (hr51 k).tr (h81 (Iem 5 :: IprodR gd :: k))
                refine lv_aload_n hx hb dX12_product_17 rfl (lv_at hl 0 rfl) ?_
                refine lv_iconst (v := 5) hx hb dX12_product_18 (by decide) ?_
                refine lv_iconst (v := 0) hx hb dX12_product_19 (by decide) ?_
                refine lv_iconst (v := 0) hx hb dX12_product_20 (by decide) ?_
                have r116 : Int32.toInt 5 = 5 := by decide
                have r117 : Int32.toInt 0 = 0 := by decide
                refine gA_int (gA_runV (As := [.int 5, .int 0, .int 0]) (rest := []) (ci := 12) (q0 := 0) hx hb hml hown hg hP hD hK hS hA hnw hgk (s_emit3 l D ks H.size ad kk V74 L75 5 0 0 hMV74 (show (V74 0 48).toInt ≤ 9999 from by first | exact om_2ac6836f37af r2.1 xlp35_5 pq59 t66 | first | omega | ((try (have i_t65 := Imp.go t65 (by omega))); (try (have i_xlp35_3 := Imp.go xlp35_3 (by omega))); (try (have i_xlp35_2 := Imp.go xlp35_2 (by omega))); (try (have i_t8 := Imp.go t8 (by omega))); first | omega | ((try (have i_t8 := Imp.go t8 (by omega))); (try (have i_xlp35_2 := Imp.go xlp35_2 (by omega))); (try (have i_xlp35_3 := Imp.go xlp35_3 (by omega))); (try (have i_t65 := Imp.go t65 (by omega))); omega)))) w2136 w2138 w111 w172 w2139 rfl rfl hdV_yX12_emit ⟨(by show 0 + 1 ≤ 10 * dd + 11; (first | exact om_081698dbc30d | omega)), (by show 8 + (4 + 11) + (0) ≤ 300 * dd + 340; (first | exact om_40dc8202cd21 | omega))⟩ rfl hl.1 rfl (Nat.le_of_ble_eq_true rfl) dX12_product_21 ⟨Nat.le_of_ble_eq_true rfl, Nat.le_of_ble_eq_true rfl⟩) hP hD hK hS hA (fun z118 u119 H locs w120 hP hD hK hS => ?_)
                obtain ⟨V124, L125⟩ := u119
                obtain ⟨hMV124, ajV124, axL125, rgz118, t121, t122, t123⟩ := w120
                have axL125 : L75 = L125 := Eq.symm axL125
                subst axL125
                have hP : va_P D vwCl (mw ad kk ks.1 V124 L75) H := hP
                have hD : va_D A (mw ad kk ks.1 V124 L75) := hD
                have hMV124 : rgd bM V124 := hMV124
                have ajV124 : agr [(0, 48)] [45, 46, 47] V74 V124 := ajV124
                have agV124 : agr [(0, 7), (0, 8), (0, 48), (0, 50)] [35, 36, 37, 38, 45, 46, 47] V V124 := agV74.tr ajV124 (by decide) (by decide)
                have rgz118 : 0 ≤ z118.toInt ∧ z118.toInt ≤ 20000 := rgz118
                have t121 : (V124 0 48).toInt = (V74 0 48).toInt + 1 := t121
                have t122 : z118.toInt = (V74 0 49).toInt + (V74 0 48).toInt := t122
                have t123 : emitted V74 V124 (pA V74) 5 0 0 := t123
                have r126 : 0 ≤ ((V124 0 48)).toInt ∧ ((V124 0 48)).toInt ≤ 10000 := hMV124 0 48
                have pq127 : (V74 0 49).toInt = ((V 0 49)).toInt := congrArg Int32.toInt ((ajV74 0 49 rfl).trans ((ajV45 0 49 rfl).trans ((ajV32 0 49 rfl).trans (ajV17 0 49 rfl))))
                have r128 : 0 ≤ ((V 0 49)).toInt ∧ ((V 0 49)).toInt ≤ 10000 := hMV 0 49
                refine lv_istore_n (lv' := [(1, .int z118), (0, .ref (ad 0))]) hx hb dX12_product_24 rfl hl (by decide) rfl (fun ls hl => ?_)
                refine lv_goto (tgt := 4) hx hb dX12_product_25 (by decide) ?_
                have pq129 : (V124 0 7).toInt = ((V74 0 7)).toInt := congrArg Int32.toInt (ajV124 0 7 rfl)
                have pq130 : (V124 0 8).toInt = ((V74 0 8)).toInt := congrArg Int32.toInt (ajV124 0 8 rfl)
                have pq131 : (V124 0 50).toInt = ((V74 0 50)).toInt := congrArg Int32.toInt (ajV124 0 50 rfl)
                have rw132 : RoV 35 bq V V124 := (fun k hk => ((ajV124 35 k rfl).trans ((t70 k hk).trans ((ajV45 35 k rfl).trans (xlp35_7 k hk)))))
                have rw133 : RoV 37 bq V V124 := (fun k hk => ((ajV124 37 k rfl).trans ((t71 k hk).trans ((ajV45 37 k rfl).trans (xlp35_8 k hk)))))
                have rw134 : RoL 36 20 bq L L75 := (fun k hk => ((t72 k hk).trans (xlp35_9 k hk)))
                have rw135 : RoL 38 20 bq L L75 := (fun k hk => ((t73 k hk).trans (xlp35_10 k hk)))
                exact ihlp35 (g34 - 1) V124 L75 H locs ls (Or.inr ⟨(show 1 ≤ (V124 0 8).toInt from by omega), (fun k => by rw [show (V124 0 8).toInt = (V74 0 8).toInt from by omega]; exact hb115 k)⟩) (show 0 ≤ (g34 - 1) from by first | omega | ((try (have i_t65 := Imp.go t65 (by omega))); (try (have i_xlp35_3 := Imp.go xlp35_3 (by omega))); (try (have i_xlp35_2 := Imp.go xlp35_2 (by omega))); (try (have i_t8 := Imp.go t8 (by omega))); first | omega | ((try (have i_t8 := Imp.go t8 (by omega))); (try (have i_xlp35_2 := Imp.go xlp35_2 (by omega))); (try (have i_xlp35_3 := Imp.go xlp35_3 (by omega))); (try (have i_t65 := Imp.go t65 (by omega))); omega))) (Imp.mk (fun hp => have hp : (V124 0 8).toInt = 0 := hp; (show (gn : Int) - (V124 0 7).toInt < (g34 - 1) from by first | omega | ((try (have i_t65 := Imp.go t65 ((pq130.symm).trans (hp)))); omega) | ((try (have i_t65 := Imp.go t65 (by omega))); (try (have i_xlp35_3 := Imp.go xlp35_3 (by omega))); (try (have i_xlp35_2 := Imp.go xlp35_2 (by omega))); (try (have i_t8 := Imp.go t8 (by omega))); first | omega | ((try (have i_t8 := Imp.go t8 (by omega))); (try (have i_xlp35_2 := Imp.go xlp35_2 (by omega))); (try (have i_xlp35_3 := Imp.go xlp35_3 (by omega))); (try (have i_t65 := Imp.go t65 (by omega))); omega))))) (Imp.mk (fun hp => have hp : (V124 0 8).toInt = 0 := hp; (show (V124 0 48).toInt - (V 0 48).toInt ≤ 2 * ((V124 0 7).toInt - (V 0 7).toInt) from by first | omega | ((try (have i_t65 := Imp.go t65 ((pq130.symm).trans (hp)))); omega) | ((try (have i_t65 := Imp.go t65 (by omega))); (try (have i_xlp35_3 := Imp.go xlp35_3 (by omega))); (try (have i_xlp35_2 := Imp.go xlp35_2 (by omega))); (try (have i_t8 := Imp.go t8 (by omega))); first | omega | ((try (have i_t8 := Imp.go t8 (by omega))); (try (have i_xlp35_2 := Imp.go xlp35_2 (by omega))); (try (have i_xlp35_3 := Imp.go xlp35_3 (by omega))); (try (have i_t65 := Imp.go t65 (by omega))); omega))))) (show (V124 0 48).toInt ≤ 8049 - 6 * (V 0 50).toInt from by first | exact om_b0dfc321db86 xlp35_5 pq59 t66 t121 | first | omega | ((try (have i_t65 := Imp.go t65 (by omega))); (try (have i_xlp35_3 := Imp.go xlp35_3 (by omega))); (try (have i_xlp35_2 := Imp.go xlp35_2 (by omega))); (try (have i_t8 := Imp.go t8 (by omega))); first | omega | ((try (have i_t8 := Imp.go t8 (by omega))); (try (have i_xlp35_2 := Imp.go xlp35_2 (by omega))); (try (have i_xlp35_3 := Imp.go xlp35_3 (by omega))); (try (have i_t65 := Imp.go t65 (by omega))); omega))) (show (V124 0 50).toInt = (V 0 50).toInt from by first | exact om_354a89fdc05f xlp35_5 pq59 t67 pq131 | first | omega | ((try (have i_t65 := Imp.go t65 (by omega))); (try (have i_xlp35_3 := Imp.go xlp35_3 (by omega))); (try (have i_xlp35_2 := Imp.go xlp35_2 (by omega))); (try (have i_t8 := Imp.go t8 (by omega))); first | omega | ((try (have i_t8 := Imp.go t8 (by omega))); (try (have i_xlp35_2 := Imp.go xlp35_2 (by omega))); (try (have i_xlp35_3 := Imp.go xlp35_3 (by omega))); (try (have i_t65 := Imp.go t65 (by omega))); omega))) (show (V 0 48).toInt ≤ (V124 0 48).toInt from by first | exact om_f68890bd9a1b xlp35_6 pq58 t68 t121 | first | omega | ((try (have i_t65 := Imp.go t65 (by omega))); (try (have i_xlp35_3 := Imp.go xlp35_3 (by omega))); (try (have i_xlp35_2 := Imp.go xlp35_2 (by omega))); (try (have i_t8 := Imp.go t8 (by omega))); first | omega | ((try (have i_t8 := Imp.go t8 (by omega))); (try (have i_xlp35_2 := Imp.go xlp35_2 (by omega))); (try (have i_xlp35_3 := Imp.go xlp35_3 (by omega))); (try (have i_t65 := Imp.go t65 (by omega))); omega))) rw132 rw133 rw134 rw135 (by first | exact om_5922346f4861 hn | first | omega | ((try (have i_t65 := Imp.go t65 (by omega))); (try (have i_xlp35_3 := Imp.go xlp35_3 (by omega))); (try (have i_xlp35_2 := Imp.go xlp35_2 (by omega))); (try (have i_t8 := Imp.go t8 (by omega))); first | omega | ((try (have i_t8 := Imp.go t8 (by omega))); (try (have i_xlp35_2 := Imp.go xlp35_2 (by omega))); (try (have i_xlp35_3 := Imp.go xlp35_3 (by omega))); (try (have i_t65 := Imp.go t65 (by omega))); omega))) alL75 (agr.tr (agr.tr (agr.tr (agr.tr agr.rf ajV32 (by decide) (by decide)) ajV45 (by decide) (by decide)) ajV74 (by decide) (by decide)) ajV124 (by decide) (by decide)) hMV124 hP hD hS (lv_sub hl [1] rfl)
          · skip
            have kd136 : gT.1 (s1.1 0) ≠ 42 := fun h9 => h48 (h9.trans (by decide))
            have fz137 := RelM.rg rl49
            have pq138 : (V45 0 8).toInt = ((V32 0 8)).toInt := congrArg Int32.toInt (ajV45 0 8 rfl)
            refine lv_if_eq (tgt := 28) hx hb dX12_product_10 (by decide) (fun c139 => ?_) (fun c139 => ?_)
            · skip
              have f140 : z41.toInt = 0 := b_eq rfl (by decide) c139
              have pq141 : (V45 0 48).toInt = ((V32 0 48)).toInt := congrArg Int32.toInt (ajV45 0 48 rfl)
              have pq142 : (V45 0 50).toInt = ((V32 0 50)).toInt := congrArg Int32.toInt (ajV45 0 50 rfl)
              have hr143 : ∀ k, Rc gT (Crun gs (Iprod gd :: k)) (Crun s1 (k)) := fun k => Rc.go1 (hq k) (prodR_n gd kd136)
              have cd144 : CDm V45 (10000 * bq) s1 := CDm.ag dq9 (show agr [(0, 7)] [] V32 V45 from (agr.tr agr.rf ajV45 (by decide) (by decide))) ⟨rfl, rfl, fun _ => ⟨rfl, rfl, rfl⟩⟩
              have rw145 : RoV 35 bq V V45 := (fun k hk => ((ajV45 35 k rfl).trans (xlp35_7 k hk)))
              have rw146 : RoV 37 bq V V45 := (fun k hk => ((ajV45 37 k rfl).trans (xlp35_8 k hk)))
              have rw147 : RoL 36 20 bq L L33 := (fun k hk => (xlp35_9 k hk))
              have rw148 : RoL 38 20 bq L L33 := (fun k hk => (xlp35_10 k hk))
              exact W.vret hx hb hr (fun t ht hW => ⟨⟨(V45, L33), rfl, ⟨hMV45, agV45, alL33, (Imp.mk (fun hp => have hp : (V45 0 8).toInt = 0 := hp; (show (V45 0 48).toInt - (V 0 48).toInt ≤ 2 * ((V45 0 7).toInt - (V 0 7).toInt) from by first | omega | ((try (have i_xlp35_3 := Imp.go xlp35_3 (by omega))); (try (have i_xlp35_2 := Imp.go xlp35_2 (by omega))); (try (have i_t8 := Imp.go t8 (by omega))); (try (have i_t8 := Imp.go t8 (by omega))); (try (have i_xlp35_2 := Imp.go xlp35_2 (by omega))); (try (have i_xlp35_3 := Imp.go xlp35_3 (by omega))); omega)))), (show (V45 0 48).toInt ≤ 8049 - 6 * (V 0 50).toInt from by first | exact om_808983945c2d xlp35_4 pq141 | first | omega | ((try (have i_xlp35_3 := Imp.go xlp35_3 (by omega))); (try (have i_xlp35_2 := Imp.go xlp35_2 (by omega))); (try (have i_t8 := Imp.go t8 (by omega))); (try (have i_t8 := Imp.go t8 (by omega))); (try (have i_xlp35_2 := Imp.go xlp35_2 (by omega))); (try (have i_xlp35_3 := Imp.go xlp35_3 (by omega))); omega)), (show (V45 0 50).toInt = (V 0 50).toInt from by first | exact om_cd7d0a6a31bc xlp35_5 pq142 | first | omega | ((try (have i_xlp35_3 := Imp.go xlp35_3 (by omega))); (try (have i_xlp35_2 := Imp.go xlp35_2 (by omega))); (try (have i_t8 := Imp.go t8 (by omega))); (try (have i_t8 := Imp.go t8 (by omega))); (try (have i_xlp35_2 := Imp.go xlp35_2 (by omega))); (try (have i_xlp35_3 := Imp.go xlp35_3 (by omega))); omega)), (show (V 0 48).toInt ≤ (V45 0 48).toInt from by first | exact om_a40cdd94799e xlp35_6 pq141 | first | omega | ((try (have i_xlp35_3 := Imp.go xlp35_3 (by omega))); (try (have i_xlp35_2 := Imp.go xlp35_2 (by omega))); (try (have i_t8 := Imp.go t8 (by omega))); (try (have i_t8 := Imp.go t8 (by omega))); (try (have i_xlp35_2 := Imp.go xlp35_2 (by omega))); (try (have i_xlp35_3 := Imp.go xlp35_3 (by omega))); omega)), (Or.inl ⟨W0 rl49, s1, hr143, rl49, keepS.le (keepS.tr (keepS.rf : keepS gs 0 gs) kq) (by decide), (keepE.tr (keepE.rf : keepE gs gs) eq9), cd144⟩), rw145, rw146, rw147, rw148⟩, by rw [ht]; exact hP, va_K.moved hW.alike hK, hD⟩, hS.F ht⟩) hS.2.2 dX12_product_28
            · skip
              have f149 : z41.toInt ≠ 0 := b_neq rfl (by decide) c139
              exfalso; first | exact om_fb320d7600b7 rgz41.1 q47 f149 | first | omega | ((try (have i_xlp35_3 := Imp.go xlp35_3 (by omega))); (try (have i_xlp35_2 := Imp.go xlp35_2 (by omega))); (try (have i_t8 := Imp.go t8 (by omega))); (try (have i_t8 := Imp.go t8 (by omega))); (try (have i_xlp35_2 := Imp.go xlp35_2 (by omega))); (try (have i_xlp35_3 := Imp.go xlp35_3 (by omega))); omega)
        · skip
          refine lv_bipush (v := 42) hx hb dX12_product_5 (by decide) ?_
          have r150 : Int32.toInt 42 = 42 := by decide
          refine gA_int (gA_runV (As := [.int 42]) (rest := []) (ci := 12) (q0 := 0) hx hb hml hown hg hP hD hK hS hA hnw hgk (s_hasSignB l D ks H.size ad kk V32 L33 42 hMV32 (show 1 ≤ (V32 0 8).toInt from by first | exact om_f8d8213eda45 f8 | first | omega | ((try (have i_xlp35_3 := Imp.go xlp35_3 (by omega))); (try (have i_xlp35_2 := Imp.go xlp35_2 (by omega))); (try (have i_t8 := Imp.go t8 (by omega))); (try (have i_t8 := Imp.go t8 (by omega))); (try (have i_xlp35_2 := Imp.go xlp35_2 (by omega))); (try (have i_xlp35_3 := Imp.go xlp35_3 (by omega))); omega))) w2067 w2069 w94 w172 w2070 rfl rfl hdV_yX12_hasSign ⟨(by show 1 + 1 ≤ 10 * dd + 11; (first | exact om_79e501bad51d | omega)), (by show 8 + (3 + 11) + (21) ≤ 300 * dd + 340; (first | exact om_81d3c60f550f | omega))⟩ rfl hl.1 rfl (Nat.le_of_ble_eq_true rfl) dX12_product_7 ⟨Nat.le_of_ble_eq_true rfl, Nat.le_of_ble_eq_true rfl⟩) hP hD hK hS hA (fun z151 u152 H locs w153 hP hD hK hS => ?_)
          obtain ⟨V155, L156⟩ := u152
          obtain ⟨hMV155, ajV155, axL156, rgz151, t154⟩ := w153
          have axL156 : L33 = L156 := Eq.symm axL156
          subst axL156
          have hP : va_P D vwCl (mw ad kk ks.1 V155 L33) H := hP
          have hD : va_D A (mw ad kk ks.1 V155 L33) := hD
          have hMV155 : rgd bM V155 := hMV155
          have ajV155 : agr [(0, 7)] [] V32 V155 := ajV155
          have agV155 : agr [(0, 7), (0, 8), (0, 48), (0, 50)] [35, 36, 37, 38, 45, 46, 47] V V155 := agV32.tr ajV155 (by decide) (by decide)
          have rgz151 : 0 ≤ z151.toInt ∧ z151.toInt ≤ 0 := rgz151
          have t154 : (V155 0 8).toInt = (V32 0 8).toInt := t154
          have pq157 : (V155 0 8).toInt = ((V32 0 8)).toInt := congrArg Int32.toInt (ajV155 0 8 rfl)
          refine lv_if_eq (tgt := 28) hx hb dX12_product_10 (by decide) (fun c158 => ?_) (fun c158 => ?_)
          · skip
            have f159 : z151.toInt = 0 := b_eq rfl (by decide) c158
            have pq160 : (V155 0 48).toInt = ((V32 0 48)).toInt := congrArg Int32.toInt (ajV155 0 48 rfl)
            have pq161 : (V155 0 50).toInt = ((V32 0 50)).toInt := congrArg Int32.toInt (ajV155 0 50 rfl)
            have rw162 : RoV 35 bq V V155 := (fun k hk => ((ajV155 35 k rfl).trans (xlp35_7 k hk)))
            have rw163 : RoV 37 bq V V155 := (fun k hk => ((ajV155 37 k rfl).trans (xlp35_8 k hk)))
            have rw164 : RoL 36 20 bq L L33 := (fun k hk => (xlp35_9 k hk))
            have rw165 : RoL 38 20 bq L L33 := (fun k hk => (xlp35_10 k hk))
            exact W.vret hx hb hr (fun t ht hW => ⟨⟨(V155, L33), rfl, ⟨hMV155, agV155, alL33, (Imp.mk (fun hp => have hp : (V155 0 8).toInt = 0 := hp; (show (V155 0 48).toInt - (V 0 48).toInt ≤ 2 * ((V155 0 7).toInt - (V 0 7).toInt) from by first | omega | ((try (have i_xlp35_3 := Imp.go xlp35_3 (by omega))); (try (have i_xlp35_2 := Imp.go xlp35_2 (by omega))); (try (have i_t8 := Imp.go t8 (by omega))); (try (have i_t8 := Imp.go t8 (by omega))); (try (have i_xlp35_2 := Imp.go xlp35_2 (by omega))); (try (have i_xlp35_3 := Imp.go xlp35_3 (by omega))); omega)))), (show (V155 0 48).toInt ≤ 8049 - 6 * (V 0 50).toInt from by first | exact om_808983945c2d xlp35_4 pq160 | first | omega | ((try (have i_xlp35_3 := Imp.go xlp35_3 (by omega))); (try (have i_xlp35_2 := Imp.go xlp35_2 (by omega))); (try (have i_t8 := Imp.go t8 (by omega))); (try (have i_t8 := Imp.go t8 (by omega))); (try (have i_xlp35_2 := Imp.go xlp35_2 (by omega))); (try (have i_xlp35_3 := Imp.go xlp35_3 (by omega))); omega)), (show (V155 0 50).toInt = (V 0 50).toInt from by first | exact om_cd7d0a6a31bc xlp35_5 pq161 | first | omega | ((try (have i_xlp35_3 := Imp.go xlp35_3 (by omega))); (try (have i_xlp35_2 := Imp.go xlp35_2 (by omega))); (try (have i_t8 := Imp.go t8 (by omega))); (try (have i_t8 := Imp.go t8 (by omega))); (try (have i_xlp35_2 := Imp.go xlp35_2 (by omega))); (try (have i_xlp35_3 := Imp.go xlp35_3 (by omega))); omega)), (show (V 0 48).toInt ≤ (V155 0 48).toInt from by first | exact om_a40cdd94799e xlp35_6 pq160 | first | omega | ((try (have i_xlp35_3 := Imp.go xlp35_3 (by omega))); (try (have i_xlp35_2 := Imp.go xlp35_2 (by omega))); (try (have i_t8 := Imp.go t8 (by omega))); (try (have i_t8 := Imp.go t8 (by omega))); (try (have i_xlp35_2 := Imp.go xlp35_2 (by omega))); (try (have i_xlp35_3 := Imp.go xlp35_3 (by omega))); omega)), (Or.inr ⟨(show 1 ≤ (V155 0 8).toInt from by (first | exact om_e3c391a03e81 f8 pq157 | omega)), (fun k => by rw [show (V155 0 8).toInt = (V32 0 8).toInt from by omega]; exact hq k)⟩), rw162, rw163, rw164, rw165⟩, by rw [ht]; exact hP, va_K.moved hW.alike hK, hD⟩, hS.F ht⟩) hS.2.2 dX12_product_28
          · skip
            have f166 : z151.toInt ≠ 0 := b_neq rfl (by decide) c158
            exfalso; first | exact om_0e608cc4b4f6 rgz151.1 rgz151.2 f166 | first | omega | ((try (have i_xlp35_3 := Imp.go xlp35_3 (by omega))); (try (have i_xlp35_2 := Imp.go xlp35_2 (by omega))); (try (have i_t8 := Imp.go t8 (by omega))); (try (have i_t8 := Imp.go t8 (by omega))); (try (have i_xlp35_2 := Imp.go xlp35_2 (by omega))); (try (have i_xlp35_3 := Imp.go xlp35_3 (by omega))); omega)
    have rw167 : RoV 35 bq V V17 := (fun k hk => ((t13 k hk).trans rfl))
    have rw168 : RoV 37 bq V V17 := (fun k hk => ((t14 k hk).trans rfl))
    have rw169 : RoL 36 20 bq L L18 := (fun k hk => ((t15 k hk).trans rfl))
    have rw170 : RoL 38 20 bq L L18 := (fun k hk => ((t16 k hk).trans rfl))
    exact lp35 ((((gn : Int) + 1) + 1 : Int).toNat) ((gn : Int) + 1) V17 L18 H locs ls (Or.inl ⟨W0 rl25, sx23, hr29, rl25, keepS.le (keepS.tr (keepS.rf : keepS gs 0 gs) kp26) (by decide), (keepE.tr (keepE.rf : keepE gs gs) ke27), cd28⟩) (show 0 ≤ ((gn : Int) + 1) from by first | exact om_484f1d066a6d | first | omega | ((try (have i_t8 := Imp.go t8 (by omega))); omega)) (Imp.mk (fun hp => have hp : (V17 0 8).toInt = 0 := hp; (show (gn : Int) - (V17 0 7).toInt < ((gn : Int) + 1) from by first | exact om_ea4f048937c3 c1 r19.1 ((Imp.go t8 (hp))) | first | omega | ((try (have i_t8 := Imp.go t8 (by omega))); omega)))) (Imp.mk (fun hp => have hp : (V17 0 8).toInt = 0 := hp; (show (V17 0 48).toInt - (V 0 48).toInt ≤ 2 * ((V17 0 7).toInt - (V 0 7).toInt) from by first | exact om_b91cb2530a91 ((Imp.go t8 (hp))) | first | omega | ((try (have i_t8 := Imp.go t8 (by omega))); omega)))) (show (V17 0 48).toInt ≤ 8049 - 6 * (V 0 50).toInt from by first | exact om_2495b21da7f9 t9 | first | omega | ((try (have i_t8 := Imp.go t8 (by omega))); omega)) (show (V17 0 50).toInt = (V 0 50).toInt from by first | exact om_570b691c1130 t10 | first | omega | ((try (have i_t8 := Imp.go t8 (by omega))); omega)) (show (V 0 48).toInt ≤ (V17 0 48).toInt from by first | exact om_f4906d00fa52 t11 | first | omega | ((try (have i_t8 := Imp.go t8 (by omega))); omega)) rw167 rw168 rw169 rw170 (by first | exact om_e44dd51abc87 | first | omega | ((try (have i_t8 := Imp.go t8 (by omega))); omega)) alL18 agr.rf hMV17 hP hD hS (lv_sub hl [0] rfl)
  · skip
    have hb171 : ∀ k, Rc gT (Crun gs (Iprod gd :: k)) (Cbad (V17 0 8).toInt) := fun k => (hr4 k).tr (h24 (IprodR gd :: k))
    have lp175 : ∀ (fulp175 : Nat) (g174 : Int) (V172 : Vf) (L173 : Lf) (H : Heap) (locs : List Loc) (ls : Array Slot), (((V172 0 8).toInt = 0 ∧ ∃ s1 : St, (∀ k, Rc gT (Crun gs (Iprod gd :: k)) (Crun s1 (IprodR gd :: k))) ∧ RelM V172 L173 bq gn gT s1 gl ∧ keepS gs 1 s1 ∧ keepE gs s1 ∧ CDm V172 (10000 * bq) s1) ∨ (1 ≤ (V172 0 8).toInt ∧ ∀ k, Rc gT (Crun gs (Iprod gd :: k)) (Cbad (V172 0 8).toInt))) → 0 ≤ g174 → Imp ((V172 0 8).toInt = 0) ((gn : Int) - (V172 0 7).toInt < g174) → Imp ((V172 0 8).toInt = 0) ((V172 0 48).toInt - (V 0 48).toInt ≤ 2 * ((V172 0 7).toInt - (V 0 7).toInt)) → (V172 0 48).toInt ≤ 8049 - 6 * (V 0 50).toInt → (V172 0 50).toInt = (V 0 50).toInt → (V 0 48).toInt ≤ (V172 0 48).toInt → (RoV 35 bq V V172) → (RoV 37 bq V V172) → (RoL 36 20 bq L L173) → (RoL 38 20 bq L L173) → g174 < (fulp175 : Int) → agL [35, 36, 37, 38, 45, 46, 47] L L173 → agr [(0, 7), (0, 8), (0, 48), (0, 50)] [35, 36, 37, 38, 45, 46, 47] V17 V172 → rgd bM V172 → va_P D vwCl (mw ad kk ks.1 V172 L173) H → va_D A (mw ad kk ks.1 V172 L173) → va_S A s.heap H locs → lv_has ls 2 [(0, .ref (ad 0))] → W p l e (rK 11 340 dd) s m ([.ref (ad 0)] : List Value).toArray below meth c H locs 0 0 (MQ below (q_s_productA D ks ad kk V L  bq gn gT gs gl gd A) ([.ref (ad 0)] : List Value).toArray s 0 0 A) (F0 m 4 ls []) := by
      intro fulp175
      induction fulp175 with
      | zero =>
        intro g174 V172 L173 H locs ls xlp175_0 xlp175_1 xlp175_2 xlp175_3 xlp175_4 xlp175_5 xlp175_6 xlp175_7 xlp175_8 xlp175_9 xlp175_10 hn alL173 ajV172 hMV172 hP hD hS hl
        exfalso; (first | exact om_21e89d3d06d7 xlp175_1 hn | omega)
      | succ fulp175 ihlp175 =>
        intro g174 V172 L173 H locs ls xlp175_0 xlp175_1 xlp175_2 xlp175_3 xlp175_4 xlp175_5 xlp175_6 xlp175_7 xlp175_8 xlp175_9 xlp175_10 hn alL173 ajV172 hMV172 hP hD hS hl
        have agV172 : agr [(0, 7), (0, 8), (0, 48), (0, 50)] [35, 36, 37, 38, 45, 46, 47] V V172 := agV17.tr ajV172 (by decide) (by decide)
        have r176 : 0 ≤ ((V172 0 8)).toInt ∧ ((V172 0 8)).toInt ≤ 70000 := hMV172 0 8
        have r177 : 0 ≤ ((V172 0 48)).toInt ∧ ((V172 0 48)).toInt ≤ 10000 := hMV172 0 48
        have r178 : 0 ≤ ((V172 0 50)).toInt ∧ ((V172 0 50)).toInt ≤ 9 := hMV172 0 50
        refine lv_aload_n hx hb dX12_product_4 rfl (lv_at hl 0 rfl) ?_
        rcases xlp175_0 with ⟨f8, s1, hq, rq, kq, eq9, dq9⟩ | ⟨f8, hq⟩
        · skip
          have fz179 := RelM.rg rq
          refine lv_bipush (v := 42) hx hb dX12_product_5 (by decide) ?_
          have r180 : Int32.toInt 42 = 42 := by decide
          refine gA_int (gA_runV (As := [.int 42]) (rest := []) (ci := 12) (q0 := 0) hx hb hml hown hg hP hD hK hS hA hnw hgk (s_hasSignA l D ks H.size ad kk V172 L173 42 (bq) (gn) (gT) (s1) (gl) hMV172 rq (sg_yes (j := 42) (by decide) (by decide) (by decide))) w2067 w2069 w94 w172 w2070 rfl rfl hdV_yX12_hasSign ⟨(by show 1 + 1 ≤ 10 * dd + 11; (first | exact om_79e501bad51d | omega)), (by show 8 + (3 + 11) + (21) ≤ 300 * dd + 340; (first | exact om_81d3c60f550f | omega))⟩ rfl hl.1 rfl (Nat.le_of_ble_eq_true rfl) dX12_product_7 ⟨Nat.le_of_ble_eq_true rfl, Nat.le_of_ble_eq_true rfl⟩) hP hD hK hS hA (fun z181 u182 H locs w183 hP hD hK hS => ?_)
          obtain ⟨V185, L186⟩ := u182
          obtain ⟨hMV185, ajV185, axL186, rgz181, t184⟩ := w183
          have axL186 : L173 = L186 := Eq.symm axL186
          subst axL186
          have hP : va_P D vwCl (mw ad kk ks.1 V185 L173) H := hP
          have hD : va_D A (mw ad kk ks.1 V185 L173) := hD
          have hMV185 : rgd bM V185 := hMV185
          have ajV185 : agr [(0, 7)] [] V172 V185 := ajV185
          have agV185 : agr [(0, 7), (0, 8), (0, 48), (0, 50)] [35, 36, 37, 38, 45, 46, 47] V V185 := agV172.tr ajV185 (by decide) (by decide)
          have rgz181 : 0 ≤ z181.toInt ∧ z181.toInt ≤ 1 := rgz181
          have t184 : (z181.toInt = 1 ∧ (gT).1 ((s1).1 0) = (Int32.toInt 42) ∧ RelM V185 L173 (bq) (gn) (gT) (nx (s1) 1) (gl)) ∨ (z181.toInt = 0 ∧ (gT).1 ((s1).1 0) ≠ (Int32.toInt 42) ∧ RelM V185 L173 (bq) (gn) (gT) (s1) (gl)) := t184
          rcases t184 with ⟨q187, h188, rl189⟩ | ⟨q187, h188, rl189⟩
          · skip
            have kd190 : gT.1 (s1.1 0) = 42 := h188.trans (by decide)
            have hr191 : ∀ k, Rc gT (Crun gs (Iprod gd :: k)) (Crun (nx s1 1) (Ipart gd :: Iem 5 :: IprodR gd :: k)) := fun k => Rc.go1 (hq k) (prodR_42 gd kd190)
            have ps192 : (nx s1 1).1 0 = s1.1 0 + 1 := rfl
            have fz193 := RelM.rg rl189
            have pq194 : (V185 0 8).toInt = ((V172 0 8)).toInt := congrArg Int32.toInt (ajV185 0 8 rfl)
            refine lv_if_eq (tgt := 28) hx hb dX12_product_10 (by decide) (fun c195 => ?_) (fun c195 => ?_)
            · skip
              have f196 : z181.toInt = 0 := b_eq rfl (by decide) c195
              exfalso; first | exact om_495ee03a60ae q187 f196 | first | omega | ((try (have i_xlp175_3 := Imp.go xlp175_3 (by omega))); (try (have i_xlp175_2 := Imp.go xlp175_2 (by omega))); (try (have i_t8 := Imp.go t8 (by omega))); (try (have i_t8 := Imp.go t8 (by omega))); (try (have i_xlp175_2 := Imp.go xlp175_2 (by omega))); (try (have i_xlp175_3 := Imp.go xlp175_3 (by omega))); omega)
            · skip
              have f197 : z181.toInt ≠ 0 := b_neq rfl (by decide) c195
              refine lv_aload_n hx hb dX12_product_13 rfl (lv_at hl 0 rfl) ?_
              have pq198 : (V185 0 48).toInt = ((V172 0 48)).toInt := congrArg Int32.toInt (ajV185 0 48 rfl)
              have pq199 : (V185 0 50).toInt = ((V172 0 50)).toInt := congrArg Int32.toInt (ajV185 0 50 rfl)
              have cd200 : CDm V185 (10000 * bq) s1 := CDm.ag dq9 (show agr [(0, 7)] [] V172 V185 from (agr.tr agr.rf ajV185 (by decide) (by decide))) ⟨rfl, rfl, fun _ => ⟨rfl, rfl, rfl⟩⟩
              have cd201 : CDm V185 (10000 * bq) (nx s1 1) := CDm.mv cd200 (show ∀ j9, j9 = 5 ∨ 2000 ≤ j9 → (nx s1 1).2.1 j9 = s1.2.1 j9 from fun j9 h9 => (show ∀ j9, 5 ≤ j9 → (nx s1 1).2.1 j9 = s1.2.1 j9 from fun _ _ => rfl) j9 (by omega))
              refine gA_void (gA_runV (As := []) (rest := []) (ci := 12) (q0 := 0) hx hb hml hown hg hP hD hK hS hA hnw hgk (hk_s_partA H.size ad kk V185 L173 (bq) (gn) (gT) ((nx s1 1)) (gl) (gd) hMV185 rl189 (show (V185 0 48).toInt ≤ 2 * (V185 0 7).toInt from by first | omega | ((try (have i_xlp175_3 := Imp.go xlp175_3 (by omega))); (try (have i_xlp175_2 := Imp.go xlp175_2 (by omega))); (try (have i_t8 := Imp.go t8 (by omega))); (try (have i_t8 := Imp.go t8 (by omega))); (try (have i_xlp175_2 := Imp.go xlp175_2 (by omega))); (try (have i_xlp175_3 := Imp.go xlp175_3 (by omega))); omega)) (show (V185 0 50).toInt = ((gd) : Int) from by first | exact om_047d18a7ea93 yd xlp175_5 pq199 | first | omega | ((try (have i_xlp175_3 := Imp.go xlp175_3 (by omega))); (try (have i_xlp175_2 := Imp.go xlp175_2 (by omega))); (try (have i_t8 := Imp.go t8 (by omega))); (try (have i_t8 := Imp.go t8 (by omega))); (try (have i_xlp175_2 := Imp.go xlp175_2 (by omega))); (try (have i_xlp175_3 := Imp.go xlp175_3 (by omega))); omega)) (show (V185 0 50).toInt + (dd : Int) = 8 from by first | exact om_cf161be9456d c4 xlp175_5 pq199 | first | omega | ((try (have i_xlp175_3 := Imp.go xlp175_3 (by omega))); (try (have i_xlp175_2 := Imp.go xlp175_2 (by omega))); (try (have i_t8 := Imp.go t8 (by omega))); (try (have i_t8 := Imp.go t8 (by omega))); (try (have i_xlp175_2 := Imp.go xlp175_2 (by omega))); (try (have i_xlp175_3 := Imp.go xlp175_3 (by omega))); omega)) (EM.mv em ((ajV185 0 51 rfl).trans ((ajV172 0 51 rfl).trans (ajV17 0 51 rfl))) ((ajV185 0 52 rfl).trans ((ajV172 0 52 rfl).trans (ajV17 0 52 rfl))) (by rw [(funext (fun q => ajV185 27 q rfl) : V185 27 = V172 27), (funext (fun q => ajV172 27 q rfl) : V172 27 = V17 27), (funext (fun q => ajV17 27 q rfl) : V17 27 = V 27)] : V185 27 = V 27) ((keepS.tr (keepS.tr (keepS.rf : keepS gs 0 gs) kq) (keepS.n1 1))).2.1) cd201) w2128 w2130 w109 w172 w2131 rfl rfl hdV_yX12_part ⟨(by show 10 * dd + 10 + 1 ≤ 10 * dd + 11; (first | exact om_1b07785c3efa | omega)), (by show 8 + (2 + 11) + (300 * dd + 300) ≤ 300 * dd + 340; (first | exact om_bc0d5f6b8c05 | omega))⟩ rfl hl.1 rfl (Nat.le_of_ble_eq_true rfl) dX12_product_14 ⟨Nat.le_of_ble_eq_true rfl, Nat.le_of_ble_eq_true rfl⟩) hP hD hK hS hA (fun u203 H locs w204 hP hD hK hS => ?_)
              obtain ⟨V214, L215⟩ := u203
              obtain ⟨hMV214, ajV214, axL215, t205, t206, t207, t208, t209, t210, t211, t212, t213⟩ := w204
              have alL215 : agL [35, 36, 37, 38, 45, 46, 47] L L215 := agL.tr alL173 axL215 (by decide)
              have hP : va_P D vwCl (mw ad kk ks.1 V214 L215) H := hP
              have hD : va_D A (mw ad kk ks.1 V214 L215) := hD
              have hMV214 : rgd bM V214 := hMV214
              have ajV214 : agr [(0, 7), (0, 8), (0, 48), (0, 50)] [35, 36, 37, 38, 45, 46, 47] V185 V214 := ajV214
              have agV214 : agr [(0, 7), (0, 8), (0, 48), (0, 50)] [35, 36, 37, 38, 45, 46, 47] V V214 := agV185.tr ajV214 (by decide) (by decide)
              have t205 : Imp ((V214 0 8).toInt = 0) ((V214 0 48).toInt - (V185 0 48).toInt ≤ 2 * ((V214 0 7).toInt - (V185 0 7).toInt)) := t205
              have t206 : (V214 0 48).toInt ≤ 8048 - 6 * (V185 0 50).toInt := t206
              have t207 : (V214 0 50).toInt = (V185 0 50).toInt := t207
              have t208 : (V185 0 48).toInt ≤ (V214 0 48).toInt := t208
              have t209 : RdM (gT) ((nx s1 1)) (fun k => Ipart (gd) :: k) (fun k => k) (V214 0 8).toInt (fun s9 => RelM V214 L215 (bq) (gn) (gT) s9 (gl) ∧ keepS ((nx s1 1)) 1 s9 ∧ keepE ((nx s1 1)) s9 ∧ CDm V214 (10000 * (bq)) s9) := t209
              have t210 : RoV 35 (bq) V185 V214 := t210
              have t211 : RoV 37 (bq) V185 V214 := t211
              have t212 : RoL 36 20 (bq) L173 L215 := t212
              have t213 : RoL 38 20 (bq) L173 L215 := t213
              have r216 : 0 ≤ ((V214 0 48)).toInt ∧ ((V214 0 48)).toInt ≤ 10000 := hMV214 0 48
              have r217 : 0 ≤ ((V214 0 8)).toInt ∧ ((V214 0 8)).toInt ≤ 70000 := hMV214 0 8
              have r218 : 0 ≤ ((V214 0 50)).toInt ∧ ((V214 0 50)).toInt ≤ 9 := hMV214 0 50
              rcases t209 with ⟨q219, sx220, h221, rl222, kp223, ke224, cd225⟩ | ⟨q219, h221⟩
              · skip
                have hr226 : ∀ k, Rc gT (Crun gs (Iprod gd :: k)) (Crun sx220 (Iem 5 :: IprodR gd :: k)) := fun k => (hr191 k).tr (h221 (Iem 5 :: IprodR gd :: k))
                have fz227 := RelM.rg rl222
                have ps228 := (kp223).1
                refine lv_aload_n hx hb dX12_product_17 rfl (lv_at hl 0 rfl) ?_
                refine lv_iconst (v := 5) hx hb dX12_product_18 (by decide) ?_
                refine lv_iconst (v := 0) hx hb dX12_product_19 (by decide) ?_
                refine lv_iconst (v := 0) hx hb dX12_product_20 (by decide) ?_
                have r229 : Int32.toInt 5 = 5 := by decide
                have r230 : Int32.toInt 0 = 0 := by decide
                refine gA_int (gA_runV (As := [.int 5, .int 0, .int 0]) (rest := []) (ci := 12) (q0 := 0) hx hb hml hown hg hP hD hK hS hA hnw hgk (s_emit3 l D ks H.size ad kk V214 L215 5 0 0 hMV214 (show (V214 0 48).toInt ≤ 9999 from by first | exact om_2ac6836f37af r2.1 xlp175_5 pq199 t206 | first | omega | ((try (have i_t205 := Imp.go t205 (by omega))); (try (have i_xlp175_3 := Imp.go xlp175_3 (by omega))); (try (have i_xlp175_2 := Imp.go xlp175_2 (by omega))); (try (have i_t8 := Imp.go t8 (by omega))); first | omega | ((try (have i_t8 := Imp.go t8 (by omega))); (try (have i_xlp175_2 := Imp.go xlp175_2 (by omega))); (try (have i_xlp175_3 := Imp.go xlp175_3 (by omega))); (try (have i_t205 := Imp.go t205 (by omega))); omega)))) w2136 w2138 w111 w172 w2139 rfl rfl hdV_yX12_emit ⟨(by show 0 + 1 ≤ 10 * dd + 11; (first | exact om_081698dbc30d | omega)), (by show 8 + (4 + 11) + (0) ≤ 300 * dd + 340; (first | exact om_40dc8202cd21 | omega))⟩ rfl hl.1 rfl (Nat.le_of_ble_eq_true rfl) dX12_product_21 ⟨Nat.le_of_ble_eq_true rfl, Nat.le_of_ble_eq_true rfl⟩) hP hD hK hS hA (fun z231 u232 H locs w233 hP hD hK hS => ?_)
                obtain ⟨V237, L238⟩ := u232
                obtain ⟨hMV237, ajV237, axL238, rgz231, t234, t235, t236⟩ := w233
                have axL238 : L215 = L238 := Eq.symm axL238
                subst axL238
                have hP : va_P D vwCl (mw ad kk ks.1 V237 L215) H := hP
                have hD : va_D A (mw ad kk ks.1 V237 L215) := hD
                have hMV237 : rgd bM V237 := hMV237
                have ajV237 : agr [(0, 48)] [45, 46, 47] V214 V237 := ajV237
                have agV237 : agr [(0, 7), (0, 8), (0, 48), (0, 50)] [35, 36, 37, 38, 45, 46, 47] V V237 := agV214.tr ajV237 (by decide) (by decide)
                have rgz231 : 0 ≤ z231.toInt ∧ z231.toInt ≤ 20000 := rgz231
                have t234 : (V237 0 48).toInt = (V214 0 48).toInt + 1 := t234
                have t235 : z231.toInt = (V214 0 49).toInt + (V214 0 48).toInt := t235
                have t236 : emitted V214 V237 (pA V214) 5 0 0 := t236
                have r239 : 0 ≤ ((V237 0 48)).toInt ∧ ((V237 0 48)).toInt ≤ 10000 := hMV237 0 48
                have pq240 : (V214 0 49).toInt = ((V 0 49)).toInt := congrArg Int32.toInt ((ajV214 0 49 rfl).trans ((ajV185 0 49 rfl).trans ((ajV172 0 49 rfl).trans (ajV17 0 49 rfl))))
                have r241 : 0 ≤ ((V 0 49)).toInt ∧ ((V 0 49)).toInt ≤ 10000 := hMV 0 49
                have hr242 : ∀ k, Rc gT (Crun gs (Iprod gd :: k)) (Crun (emS sx220 5 0 0) (IprodR gd :: k)) := fun k => Rc.go1 (hr226 k) (m_em 5)
                have rl243 : RelM V237 L215 bq gn gT sx220 gl := RelM.ag rl222 (show agr [(0, 48)] [45, 46, 47] V214 V237 from (agr.tr agr.rf ajV237 (by decide) (by decide))) (by decide) (show agL [] L215 L215 from agL.rf) (by decide)
                have rl244 : RelM V237 L215 bq gn gT (emS sx220 5 0 0) gl := RelM.em rl243
                have ps245 : (emS sx220 5 0 0).1 0 = sx220.1 0 := rfl
                have fz246 := RelM.rg rl244
                have pq247 : (V237 0 8).toInt = ((V214 0 8)).toInt := congrArg Int32.toInt (ajV237 0 8 rfl)
                have pq248 : (V237 0 7).toInt = ((V214 0 7)).toInt := congrArg Int32.toInt (ajV237 0 7 rfl)
                have cd249 : CDm V237 (10000 * bq) (emS sx220 5 0 0) := CDm.e0 cd225 t234 (ajV237 0 49 rfl) t236 (by decide) (by decide) (by decide) (by decide)
                refine lv_istore_n (lv' := [(1, .int z231), (0, .ref (ad 0))]) hx hb dX12_product_24 rfl hl (by decide) rfl (fun ls hl => ?_)
                refine lv_goto (tgt := 4) hx hb dX12_product_25 (by decide) ?_
                have pq250 : (V237 0 50).toInt = ((V214 0 50)).toInt := congrArg Int32.toInt (ajV237 0 50 rfl)
                have rw251 : RoV 35 bq V V237 := (fun k hk => ((ajV237 35 k rfl).trans ((t210 k hk).trans ((ajV185 35 k rfl).trans (xlp175_7 k hk)))))
                have rw252 : RoV 37 bq V V237 := (fun k hk => ((ajV237 37 k rfl).trans ((t211 k hk).trans ((ajV185 37 k rfl).trans (xlp175_8 k hk)))))
                have rw253 : RoL 36 20 bq L L215 := (fun k hk => ((t212 k hk).trans (xlp175_9 k hk)))
                have rw254 : RoL 38 20 bq L L215 := (fun k hk => ((t213 k hk).trans (xlp175_10 k hk)))
                exact ihlp175 (g174 - 1) V237 L215 H locs ls (Or.inl ⟨W0 rl244, (emS sx220 5 0 0), hr242, rl244, keepS.le (keepS.tr (keepS.tr (keepS.tr (keepS.tr (keepS.rf : keepS gs 0 gs) kq) (keepS.n1 1)) kp223) (show keepS sx220 0 (emS sx220 5 0 0) from keepS.em)) (by decide), (keepE.tr (keepE.tr (keepE.tr (keepE.tr (keepE.rf : keepE gs gs) eq9) (show keepE s1 (nx s1 1) from keepE.eq (show ∀ j9, 5 ≤ j9 → (nx s1 1).2.1 j9 = s1.2.1 j9 from fun _ _ => rfl))) ke224) (show keepE sx220 (emS sx220 5 0 0) from keepE.em)), cd249⟩) (show 0 ≤ (g174 - 1) from by first | omega | ((try (have i_t205 := Imp.go t205 (by omega))); (try (have i_xlp175_3 := Imp.go xlp175_3 (by omega))); (try (have i_xlp175_2 := Imp.go xlp175_2 (by omega))); (try (have i_t8 := Imp.go t8 (by omega))); first | omega | ((try (have i_t8 := Imp.go t8 (by omega))); (try (have i_xlp175_2 := Imp.go xlp175_2 (by omega))); (try (have i_xlp175_3 := Imp.go xlp175_3 (by omega))); (try (have i_t205 := Imp.go t205 (by omega))); omega))) (Imp.mk (fun hp => have hp : (V237 0 8).toInt = 0 := hp; (show (gn : Int) - (V237 0 7).toInt < (g174 - 1) from by first | omega | ((try (have i_t205 := Imp.go t205 ((pq247.symm).trans (hp)))); omega) | ((try (have i_t205 := Imp.go t205 (by omega))); (try (have i_xlp175_3 := Imp.go xlp175_3 (by omega))); (try (have i_xlp175_2 := Imp.go xlp175_2 (by omega))); (try (have i_t8 := Imp.go t8 (by omega))); first | omega | ((try (have i_t8 := Imp.go t8 (by omega))); (try (have i_xlp175_2 := Imp.go xlp175_2 (by omega))); (try (have i_xlp175_3 := Imp.go xlp175_3 (by omega))); (try (have i_t205 := Imp.go t205 (by omega))); omega))))) (Imp.mk (fun hp => have hp : (V237 0 8).toInt = 0 := hp; (show (V237 0 48).toInt - (V 0 48).toInt ≤ 2 * ((V237 0 7).toInt - (V 0 7).toInt) from by first | omega | ((try (have i_t205 := Imp.go t205 ((pq247.symm).trans (hp)))); omega) | ((try (have i_t205 := Imp.go t205 (by omega))); (try (have i_xlp175_3 := Imp.go xlp175_3 (by omega))); (try (have i_xlp175_2 := Imp.go xlp175_2 (by omega))); (try (have i_t8 := Imp.go t8 (by omega))); first | omega | ((try (have i_t8 := Imp.go t8 (by omega))); (try (have i_xlp175_2 := Imp.go xlp175_2 (by omega))); (try (have i_xlp175_3 := Imp.go xlp175_3 (by omega))); (try (have i_t205 := Imp.go t205 (by omega))); omega))))) (show (V237 0 48).toInt ≤ 8049 - 6 * (V 0 50).toInt from by first | exact om_b0dfc321db86 xlp175_5 pq199 t206 t234 | first | omega | ((try (have i_t205 := Imp.go t205 (by omega))); (try (have i_xlp175_3 := Imp.go xlp175_3 (by omega))); (try (have i_xlp175_2 := Imp.go xlp175_2 (by omega))); (try (have i_t8 := Imp.go t8 (by omega))); first | omega | ((try (have i_t8 := Imp.go t8 (by omega))); (try (have i_xlp175_2 := Imp.go xlp175_2 (by omega))); (try (have i_xlp175_3 := Imp.go xlp175_3 (by omega))); (try (have i_t205 := Imp.go t205 (by omega))); omega))) (show (V237 0 50).toInt = (V 0 50).toInt from by first | exact om_354a89fdc05f xlp175_5 pq199 t207 pq250 | first | omega | ((try (have i_t205 := Imp.go t205 (by omega))); (try (have i_xlp175_3 := Imp.go xlp175_3 (by omega))); (try (have i_xlp175_2 := Imp.go xlp175_2 (by omega))); (try (have i_t8 := Imp.go t8 (by omega))); first | omega | ((try (have i_t8 := Imp.go t8 (by omega))); (try (have i_xlp175_2 := Imp.go xlp175_2 (by omega))); (try (have i_xlp175_3 := Imp.go xlp175_3 (by omega))); (try (have i_t205 := Imp.go t205 (by omega))); omega))) (show (V 0 48).toInt ≤ (V237 0 48).toInt from by first | exact om_f68890bd9a1b xlp175_6 pq198 t208 t234 | first | omega | ((try (have i_t205 := Imp.go t205 (by omega))); (try (have i_xlp175_3 := Imp.go xlp175_3 (by omega))); (try (have i_xlp175_2 := Imp.go xlp175_2 (by omega))); (try (have i_t8 := Imp.go t8 (by omega))); first | omega | ((try (have i_t8 := Imp.go t8 (by omega))); (try (have i_xlp175_2 := Imp.go xlp175_2 (by omega))); (try (have i_xlp175_3 := Imp.go xlp175_3 (by omega))); (try (have i_t205 := Imp.go t205 (by omega))); omega))) rw251 rw252 rw253 rw254 (by first | exact om_5922346f4861 hn | first | omega | ((try (have i_t205 := Imp.go t205 (by omega))); (try (have i_xlp175_3 := Imp.go xlp175_3 (by omega))); (try (have i_xlp175_2 := Imp.go xlp175_2 (by omega))); (try (have i_t8 := Imp.go t8 (by omega))); first | omega | ((try (have i_t8 := Imp.go t8 (by omega))); (try (have i_xlp175_2 := Imp.go xlp175_2 (by omega))); (try (have i_xlp175_3 := Imp.go xlp175_3 (by omega))); (try (have i_t205 := Imp.go t205 (by omega))); omega))) alL215 (agr.tr (agr.tr (agr.tr (agr.tr agr.rf ajV172 (by decide) (by decide)) ajV185 (by decide) (by decide)) ajV214 (by decide) (by decide)) ajV237 (by decide) (by decide)) hMV237 hP hD hS (lv_sub hl [1] rfl)
              · skip
                have hb255 : ∀ k, Rc gT (Crun gs (Iprod gd :: k)) (Cbad (V214 0 8).toInt) := fun k => (hr191 k).tr (h221 (Iem 5 :: IprodR gd :: k))
                refine lv_aload_n hx hb dX12_product_17 rfl (lv_at hl 0 rfl) ?_
                refine lv_iconst (v := 5) hx hb dX12_product_18 (by decide) ?_
                refine lv_iconst (v := 0) hx hb dX12_product_19 (by decide) ?_
                refine lv_iconst (v := 0) hx hb dX12_product_20 (by decide) ?_
                have r256 : Int32.toInt 5 = 5 := by decide
                have r257 : Int32.toInt 0 = 0 := by decide
                refine gA_int (gA_runV (As := [.int 5, .int 0, .int 0]) (rest := []) (ci := 12) (q0 := 0) hx hb hml hown hg hP hD hK hS hA hnw hgk (s_emit3 l D ks H.size ad kk V214 L215 5 0 0 hMV214 (show (V214 0 48).toInt ≤ 9999 from by first | exact om_2ac6836f37af r2.1 xlp175_5 pq199 t206 | first | omega | ((try (have i_t205 := Imp.go t205 (by omega))); (try (have i_xlp175_3 := Imp.go xlp175_3 (by omega))); (try (have i_xlp175_2 := Imp.go xlp175_2 (by omega))); (try (have i_t8 := Imp.go t8 (by omega))); first | omega | ((try (have i_t8 := Imp.go t8 (by omega))); (try (have i_xlp175_2 := Imp.go xlp175_2 (by omega))); (try (have i_xlp175_3 := Imp.go xlp175_3 (by omega))); (try (have i_t205 := Imp.go t205 (by omega))); omega)))) w2136 w2138 w111 w172 w2139 rfl rfl hdV_yX12_emit ⟨(by show 0 + 1 ≤ 10 * dd + 11; (first | exact om_081698dbc30d | omega)), (by show 8 + (4 + 11) + (0) ≤ 300 * dd + 340; (first | exact om_40dc8202cd21 | omega))⟩ rfl hl.1 rfl (Nat.le_of_ble_eq_true rfl) dX12_product_21 ⟨Nat.le_of_ble_eq_true rfl, Nat.le_of_ble_eq_true rfl⟩) hP hD hK hS hA (fun z258 u259 H locs w260 hP hD hK hS => ?_)
                obtain ⟨V264, L265⟩ := u259
                obtain ⟨hMV264, ajV264, axL265, rgz258, t261, t262, t263⟩ := w260
                have axL265 : L215 = L265 := Eq.symm axL265
                subst axL265
                have hP : va_P D vwCl (mw ad kk ks.1 V264 L215) H := hP
                have hD : va_D A (mw ad kk ks.1 V264 L215) := hD
                have hMV264 : rgd bM V264 := hMV264
                have ajV264 : agr [(0, 48)] [45, 46, 47] V214 V264 := ajV264
                have agV264 : agr [(0, 7), (0, 8), (0, 48), (0, 50)] [35, 36, 37, 38, 45, 46, 47] V V264 := agV214.tr ajV264 (by decide) (by decide)
                have rgz258 : 0 ≤ z258.toInt ∧ z258.toInt ≤ 20000 := rgz258
                have t261 : (V264 0 48).toInt = (V214 0 48).toInt + 1 := t261
                have t262 : z258.toInt = (V214 0 49).toInt + (V214 0 48).toInt := t262
                have t263 : emitted V214 V264 (pA V214) 5 0 0 := t263
                have r266 : 0 ≤ ((V264 0 48)).toInt ∧ ((V264 0 48)).toInt ≤ 10000 := hMV264 0 48
                have pq267 : (V214 0 49).toInt = ((V 0 49)).toInt := congrArg Int32.toInt ((ajV214 0 49 rfl).trans ((ajV185 0 49 rfl).trans ((ajV172 0 49 rfl).trans (ajV17 0 49 rfl))))
                have r268 : 0 ≤ ((V 0 49)).toInt ∧ ((V 0 49)).toInt ≤ 10000 := hMV 0 49
                refine lv_istore_n (lv' := [(1, .int z258), (0, .ref (ad 0))]) hx hb dX12_product_24 rfl hl (by decide) rfl (fun ls hl => ?_)
                refine lv_goto (tgt := 4) hx hb dX12_product_25 (by decide) ?_
                have pq269 : (V264 0 7).toInt = ((V214 0 7)).toInt := congrArg Int32.toInt (ajV264 0 7 rfl)
                have pq270 : (V264 0 8).toInt = ((V214 0 8)).toInt := congrArg Int32.toInt (ajV264 0 8 rfl)
                have pq271 : (V264 0 50).toInt = ((V214 0 50)).toInt := congrArg Int32.toInt (ajV264 0 50 rfl)
                have rw272 : RoV 35 bq V V264 := (fun k hk => ((ajV264 35 k rfl).trans ((t210 k hk).trans ((ajV185 35 k rfl).trans (xlp175_7 k hk)))))
                have rw273 : RoV 37 bq V V264 := (fun k hk => ((ajV264 37 k rfl).trans ((t211 k hk).trans ((ajV185 37 k rfl).trans (xlp175_8 k hk)))))
                have rw274 : RoL 36 20 bq L L215 := (fun k hk => ((t212 k hk).trans (xlp175_9 k hk)))
                have rw275 : RoL 38 20 bq L L215 := (fun k hk => ((t213 k hk).trans (xlp175_10 k hk)))
                exact ihlp175 (g174 - 1) V264 L215 H locs ls (Or.inr ⟨(show 1 ≤ (V264 0 8).toInt from by omega), (fun k => by rw [show (V264 0 8).toInt = (V214 0 8).toInt from by omega]; exact hb255 k)⟩) (show 0 ≤ (g174 - 1) from by first | omega | ((try (have i_t205 := Imp.go t205 (by omega))); (try (have i_xlp175_3 := Imp.go xlp175_3 (by omega))); (try (have i_xlp175_2 := Imp.go xlp175_2 (by omega))); (try (have i_t8 := Imp.go t8 (by omega))); first | omega | ((try (have i_t8 := Imp.go t8 (by omega))); (try (have i_xlp175_2 := Imp.go xlp175_2 (by omega))); (try (have i_xlp175_3 := Imp.go xlp175_3 (by omega))); (try (have i_t205 := Imp.go t205 (by omega))); omega))) (Imp.mk (fun hp => have hp : (V264 0 8).toInt = 0 := hp; (show (gn : Int) - (V264 0 7).toInt < (g174 - 1) from by first | omega | ((try (have i_t205 := Imp.go t205 ((pq270.symm).trans (hp)))); omega) | ((try (have i_t205 := Imp.go t205 (by omega))); (try (have i_xlp175_3 := Imp.go xlp175_3 (by omega))); (try (have i_xlp175_2 := Imp.go xlp175_2 (by omega))); (try (have i_t8 := Imp.go t8 (by omega))); first | omega | ((try (have i_t8 := Imp.go t8 (by omega))); (try (have i_xlp175_2 := Imp.go xlp175_2 (by omega))); (try (have i_xlp175_3 := Imp.go xlp175_3 (by omega))); (try (have i_t205 := Imp.go t205 (by omega))); omega))))) (Imp.mk (fun hp => have hp : (V264 0 8).toInt = 0 := hp; (show (V264 0 48).toInt - (V 0 48).toInt ≤ 2 * ((V264 0 7).toInt - (V 0 7).toInt) from by first | omega | ((try (have i_t205 := Imp.go t205 ((pq270.symm).trans (hp)))); omega) | ((try (have i_t205 := Imp.go t205 (by omega))); (try (have i_xlp175_3 := Imp.go xlp175_3 (by omega))); (try (have i_xlp175_2 := Imp.go xlp175_2 (by omega))); (try (have i_t8 := Imp.go t8 (by omega))); first | omega | ((try (have i_t8 := Imp.go t8 (by omega))); (try (have i_xlp175_2 := Imp.go xlp175_2 (by omega))); (try (have i_xlp175_3 := Imp.go xlp175_3 (by omega))); (try (have i_t205 := Imp.go t205 (by omega))); omega))))) (show (V264 0 48).toInt ≤ 8049 - 6 * (V 0 50).toInt from by first | exact om_b0dfc321db86 xlp175_5 pq199 t206 t261 | first | omega | ((try (have i_t205 := Imp.go t205 (by omega))); (try (have i_xlp175_3 := Imp.go xlp175_3 (by omega))); (try (have i_xlp175_2 := Imp.go xlp175_2 (by omega))); (try (have i_t8 := Imp.go t8 (by omega))); first | omega | ((try (have i_t8 := Imp.go t8 (by omega))); (try (have i_xlp175_2 := Imp.go xlp175_2 (by omega))); (try (have i_xlp175_3 := Imp.go xlp175_3 (by omega))); (try (have i_t205 := Imp.go t205 (by omega))); omega))) (show (V264 0 50).toInt = (V 0 50).toInt from by first | exact om_354a89fdc05f xlp175_5 pq199 t207 pq271 | first | omega | ((try (have i_t205 := Imp.go t205 (by omega))); (try (have i_xlp175_3 := Imp.go xlp175_3 (by omega))); (try (have i_xlp175_2 := Imp.go xlp175_2 (by omega))); (try (have i_t8 := Imp.go t8 (by omega))); first | omega | ((try (have i_t8 := Imp.go t8 (by omega))); (try (have i_xlp175_2 := Imp.go xlp175_2 (by omega))); (try (have i_xlp175_3 := Imp.go xlp175_3 (by omega))); (try (have i_t205 := Imp.go t205 (by omega))); omega))) (show (V 0 48).toInt ≤ (V264 0 48).toInt from by first | exact om_f68890bd9a1b xlp175_6 pq198 t208 t261 | first | omega | ((try (have i_t205 := Imp.go t205 (by omega))); (try (have i_xlp175_3 := Imp.go xlp175_3 (by omega))); (try (have i_xlp175_2 := Imp.go xlp175_2 (by omega))); (try (have i_t8 := Imp.go t8 (by omega))); first | omega | ((try (have i_t8 := Imp.go t8 (by omega))); (try (have i_xlp175_2 := Imp.go xlp175_2 (by omega))); (try (have i_xlp175_3 := Imp.go xlp175_3 (by omega))); (try (have i_t205 := Imp.go t205 (by omega))); omega))) rw272 rw273 rw274 rw275 (by first | exact om_5922346f4861 hn | first | omega | ((try (have i_t205 := Imp.go t205 (by omega))); (try (have i_xlp175_3 := Imp.go xlp175_3 (by omega))); (try (have i_xlp175_2 := Imp.go xlp175_2 (by omega))); (try (have i_t8 := Imp.go t8 (by omega))); first | omega | ((try (have i_t8 := Imp.go t8 (by omega))); (try (have i_xlp175_2 := Imp.go xlp175_2 (by omega))); (try (have i_xlp175_3 := Imp.go xlp175_3 (by omega))); (try (have i_t205 := Imp.go t205 (by omega))); omega))) alL215 (agr.tr (agr.tr (agr.tr (agr.tr agr.rf ajV172 (by decide) (by decide)) ajV185 (by decide) (by decide)) ajV214 (by decide) (by decide)) ajV264 (by decide) (by decide)) hMV264 hP hD hS (lv_sub hl [1] rfl)
          · skip
            have kd276 : gT.1 (s1.1 0) ≠ 42 := fun h9 => h188 (h9.trans (by decide))
            have fz277 := RelM.rg rl189
            have pq278 : (V185 0 8).toInt = ((V172 0 8)).toInt := congrArg Int32.toInt (ajV185 0 8 rfl)
            refine lv_if_eq (tgt := 28) hx hb dX12_product_10 (by decide) (fun c279 => ?_) (fun c279 => ?_)
            · skip
              have f280 : z181.toInt = 0 := b_eq rfl (by decide) c279
              have pq281 : (V185 0 48).toInt = ((V172 0 48)).toInt := congrArg Int32.toInt (ajV185 0 48 rfl)
              have pq282 : (V185 0 50).toInt = ((V172 0 50)).toInt := congrArg Int32.toInt (ajV185 0 50 rfl)
              have hr283 : ∀ k, Rc gT (Crun gs (Iprod gd :: k)) (Crun s1 (k)) := fun k => Rc.go1 (hq k) (prodR_n gd kd276)
              have cd284 : CDm V185 (10000 * bq) s1 := CDm.ag dq9 (show agr [(0, 7)] [] V172 V185 from (agr.tr agr.rf ajV185 (by decide) (by decide))) ⟨rfl, rfl, fun _ => ⟨rfl, rfl, rfl⟩⟩
              have rw285 : RoV 35 bq V V185 := (fun k hk => ((ajV185 35 k rfl).trans (xlp175_7 k hk)))
              have rw286 : RoV 37 bq V V185 := (fun k hk => ((ajV185 37 k rfl).trans (xlp175_8 k hk)))
              have rw287 : RoL 36 20 bq L L173 := (fun k hk => (xlp175_9 k hk))
              have rw288 : RoL 38 20 bq L L173 := (fun k hk => (xlp175_10 k hk))
              exact W.vret hx hb hr (fun t ht hW => ⟨⟨(V185, L173), rfl, ⟨hMV185, agV185, alL173, (Imp.mk (fun hp => have hp : (V185 0 8).toInt = 0 := hp; (show (V185 0 48).toInt - (V 0 48).toInt ≤ 2 * ((V185 0 7).toInt - (V 0 7).toInt) from by first | omega | ((try (have i_xlp175_3 := Imp.go xlp175_3 (by omega))); (try (have i_xlp175_2 := Imp.go xlp175_2 (by omega))); (try (have i_t8 := Imp.go t8 (by omega))); (try (have i_t8 := Imp.go t8 (by omega))); (try (have i_xlp175_2 := Imp.go xlp175_2 (by omega))); (try (have i_xlp175_3 := Imp.go xlp175_3 (by omega))); omega)))), (show (V185 0 48).toInt ≤ 8049 - 6 * (V 0 50).toInt from by first | exact om_808983945c2d xlp175_4 pq281 | first | omega | ((try (have i_xlp175_3 := Imp.go xlp175_3 (by omega))); (try (have i_xlp175_2 := Imp.go xlp175_2 (by omega))); (try (have i_t8 := Imp.go t8 (by omega))); (try (have i_t8 := Imp.go t8 (by omega))); (try (have i_xlp175_2 := Imp.go xlp175_2 (by omega))); (try (have i_xlp175_3 := Imp.go xlp175_3 (by omega))); omega)), (show (V185 0 50).toInt = (V 0 50).toInt from by first | exact om_cd7d0a6a31bc xlp175_5 pq282 | first | omega | ((try (have i_xlp175_3 := Imp.go xlp175_3 (by omega))); (try (have i_xlp175_2 := Imp.go xlp175_2 (by omega))); (try (have i_t8 := Imp.go t8 (by omega))); (try (have i_t8 := Imp.go t8 (by omega))); (try (have i_xlp175_2 := Imp.go xlp175_2 (by omega))); (try (have i_xlp175_3 := Imp.go xlp175_3 (by omega))); omega)), (show (V 0 48).toInt ≤ (V185 0 48).toInt from by first | exact om_a40cdd94799e xlp175_6 pq281 | first | omega | ((try (have i_xlp175_3 := Imp.go xlp175_3 (by omega))); (try (have i_xlp175_2 := Imp.go xlp175_2 (by omega))); (try (have i_t8 := Imp.go t8 (by omega))); (try (have i_t8 := Imp.go t8 (by omega))); (try (have i_xlp175_2 := Imp.go xlp175_2 (by omega))); (try (have i_xlp175_3 := Imp.go xlp175_3 (by omega))); omega)), (Or.inl ⟨W0 rl189, s1, hr283, rl189, keepS.le (keepS.tr (keepS.rf : keepS gs 0 gs) kq) (by decide), (keepE.tr (keepE.rf : keepE gs gs) eq9), cd284⟩), rw285, rw286, rw287, rw288⟩, by rw [ht]; exact hP, va_K.moved hW.alike hK, hD⟩, hS.F ht⟩) hS.2.2 dX12_product_28
            · skip
              have f289 : z181.toInt ≠ 0 := b_neq rfl (by decide) c279
              exfalso; first | exact om_fb320d7600b7 rgz181.1 q187 f289 | first | omega | ((try (have i_xlp175_3 := Imp.go xlp175_3 (by omega))); (try (have i_xlp175_2 := Imp.go xlp175_2 (by omega))); (try (have i_t8 := Imp.go t8 (by omega))); (try (have i_t8 := Imp.go t8 (by omega))); (try (have i_xlp175_2 := Imp.go xlp175_2 (by omega))); (try (have i_xlp175_3 := Imp.go xlp175_3 (by omega))); omega)
        · skip
          refine lv_bipush (v := 42) hx hb dX12_product_5 (by decide) ?_
          have r290 : Int32.toInt 42 = 42 := by decide
          refine gA_int (gA_runV (As := [.int 42]) (rest := []) (ci := 12) (q0 := 0) hx hb hml hown hg hP hD hK hS hA hnw hgk (s_hasSignB l D ks H.size ad kk V172 L173 42 hMV172 (show 1 ≤ (V172 0 8).toInt from by first | exact om_f8d8213eda45 f8 | first | omega | ((try (have i_xlp175_3 := Imp.go xlp175_3 (by omega))); (try (have i_xlp175_2 := Imp.go xlp175_2 (by omega))); (try (have i_t8 := Imp.go t8 (by omega))); (try (have i_t8 := Imp.go t8 (by omega))); (try (have i_xlp175_2 := Imp.go xlp175_2 (by omega))); (try (have i_xlp175_3 := Imp.go xlp175_3 (by omega))); omega))) w2067 w2069 w94 w172 w2070 rfl rfl hdV_yX12_hasSign ⟨(by show 1 + 1 ≤ 10 * dd + 11; (first | exact om_79e501bad51d | omega)), (by show 8 + (3 + 11) + (21) ≤ 300 * dd + 340; (first | exact om_81d3c60f550f | omega))⟩ rfl hl.1 rfl (Nat.le_of_ble_eq_true rfl) dX12_product_7 ⟨Nat.le_of_ble_eq_true rfl, Nat.le_of_ble_eq_true rfl⟩) hP hD hK hS hA (fun z291 u292 H locs w293 hP hD hK hS => ?_)
          obtain ⟨V295, L296⟩ := u292
          obtain ⟨hMV295, ajV295, axL296, rgz291, t294⟩ := w293
          have axL296 : L173 = L296 := Eq.symm axL296
          subst axL296
          have hP : va_P D vwCl (mw ad kk ks.1 V295 L173) H := hP
          have hD : va_D A (mw ad kk ks.1 V295 L173) := hD
          have hMV295 : rgd bM V295 := hMV295
          have ajV295 : agr [(0, 7)] [] V172 V295 := ajV295
          have agV295 : agr [(0, 7), (0, 8), (0, 48), (0, 50)] [35, 36, 37, 38, 45, 46, 47] V V295 := agV172.tr ajV295 (by decide) (by decide)
          have rgz291 : 0 ≤ z291.toInt ∧ z291.toInt ≤ 0 := rgz291
          have t294 : (V295 0 8).toInt = (V172 0 8).toInt := t294
          have pq297 : (V295 0 8).toInt = ((V172 0 8)).toInt := congrArg Int32.toInt (ajV295 0 8 rfl)
          refine lv_if_eq (tgt := 28) hx hb dX12_product_10 (by decide) (fun c298 => ?_) (fun c298 => ?_)
          · skip
            have f299 : z291.toInt = 0 := b_eq rfl (by decide) c298
            have pq300 : (V295 0 48).toInt = ((V172 0 48)).toInt := congrArg Int32.toInt (ajV295 0 48 rfl)
            have pq301 : (V295 0 50).toInt = ((V172 0 50)).toInt := congrArg Int32.toInt (ajV295 0 50 rfl)
            have rw302 : RoV 35 bq V V295 := (fun k hk => ((ajV295 35 k rfl).trans (xlp175_7 k hk)))
            have rw303 : RoV 37 bq V V295 := (fun k hk => ((ajV295 37 k rfl).trans (xlp175_8 k hk)))
            have rw304 : RoL 36 20 bq L L173 := (fun k hk => (xlp175_9 k hk))
            have rw305 : RoL 38 20 bq L L173 := (fun k hk => (xlp175_10 k hk))
            exact W.vret hx hb hr (fun t ht hW => ⟨⟨(V295, L173), rfl, ⟨hMV295, agV295, alL173, (Imp.mk (fun hp => have hp : (V295 0 8).toInt = 0 := hp; (show (V295 0 48).toInt - (V 0 48).toInt ≤ 2 * ((V295 0 7).toInt - (V 0 7).toInt) from by first | omega | ((try (have i_xlp175_3 := Imp.go xlp175_3 (by omega))); (try (have i_xlp175_2 := Imp.go xlp175_2 (by omega))); (try (have i_t8 := Imp.go t8 (by omega))); (try (have i_t8 := Imp.go t8 (by omega))); (try (have i_xlp175_2 := Imp.go xlp175_2 (by omega))); (try (have i_xlp175_3 := Imp.go xlp175_3 (by omega))); omega)))), (show (V295 0 48).toInt ≤ 8049 - 6 * (V 0 50).toInt from by first | exact om_808983945c2d xlp175_4 pq300 | first | omega | ((try (have i_xlp175_3 := Imp.go xlp175_3 (by omega))); (try (have i_xlp175_2 := Imp.go xlp175_2 (by omega))); (try (have i_t8 := Imp.go t8 (by omega))); (try (have i_t8 := Imp.go t8 (by omega))); (try (have i_xlp175_2 := Imp.go xlp175_2 (by omega))); (try (have i_xlp175_3 := Imp.go xlp175_3 (by omega))); omega)), (show (V295 0 50).toInt = (V 0 50).toInt from by first | exact om_cd7d0a6a31bc xlp175_5 pq301 | first | omega | ((try (have i_xlp175_3 := Imp.go xlp175_3 (by omega))); (try (have i_xlp175_2 := Imp.go xlp175_2 (by omega))); (try (have i_t8 := Imp.go t8 (by omega))); (try (have i_t8 := Imp.go t8 (by omega))); (try (have i_xlp175_2 := Imp.go xlp175_2 (by omega))); (try (have i_xlp175_3 := Imp.go xlp175_3 (by omega))); omega)), (show (V 0 48).toInt ≤ (V295 0 48).toInt from by first | exact om_a40cdd94799e xlp175_6 pq300 | first | omega | ((try (have i_xlp175_3 := Imp.go xlp175_3 (by omega))); (try (have i_xlp175_2 := Imp.go xlp175_2 (by omega))); (try (have i_t8 := Imp.go t8 (by omega))); (try (have i_t8 := Imp.go t8 (by omega))); (try (have i_xlp175_2 := Imp.go xlp175_2 (by omega))); (try (have i_xlp175_3 := Imp.go xlp175_3 (by omega))); omega)), (Or.inr ⟨(show 1 ≤ (V295 0 8).toInt from by (first | exact om_e3c391a03e81 f8 pq297 | omega)), (fun k => by rw [show (V295 0 8).toInt = (V172 0 8).toInt from by omega]; exact hq k)⟩), rw302, rw303, rw304, rw305⟩, by rw [ht]; exact hP, va_K.moved hW.alike hK, hD⟩, hS.F ht⟩) hS.2.2 dX12_product_28
          · skip
            have f306 : z291.toInt ≠ 0 := b_neq rfl (by decide) c298
            exfalso; first | exact om_0e608cc4b4f6 rgz291.1 rgz291.2 f306 | first | omega | ((try (have i_xlp175_3 := Imp.go xlp175_3 (by omega))); (try (have i_xlp175_2 := Imp.go xlp175_2 (by omega))); (try (have i_t8 := Imp.go t8 (by omega))); (try (have i_t8 := Imp.go t8 (by omega))); (try (have i_xlp175_2 := Imp.go xlp175_2 (by omega))); (try (have i_xlp175_3 := Imp.go xlp175_3 (by omega))); omega)
    have rw307 : RoV 35 bq V V17 := (fun k hk => ((t13 k hk).trans rfl))
    have rw308 : RoV 37 bq V V17 := (fun k hk => ((t14 k hk).trans rfl))
    have rw309 : RoL 36 20 bq L L18 := (fun k hk => ((t15 k hk).trans rfl))
    have rw310 : RoL 38 20 bq L L18 := (fun k hk => ((t16 k hk).trans rfl))
    exact lp175 ((((gn : Int) + 1) + 1 : Int).toNat) ((gn : Int) + 1) V17 L18 H locs ls (Or.inr ⟨(show 1 ≤ (V17 0 8).toInt from by omega), hb171⟩) (show 0 ≤ ((gn : Int) + 1) from by first | exact om_484f1d066a6d | first | omega | ((try (have i_t8 := Imp.go t8 (by omega))); omega)) (Imp.mk (fun hp => have hp : (V17 0 8).toInt = 0 := hp; (show (gn : Int) - (V17 0 7).toInt < ((gn : Int) + 1) from by first | exact om_ea4f048937c3 c1 r19.1 ((Imp.go t8 (hp))) | first | omega | ((try (have i_t8 := Imp.go t8 (by omega))); omega)))) (Imp.mk (fun hp => have hp : (V17 0 8).toInt = 0 := hp; (show (V17 0 48).toInt - (V 0 48).toInt ≤ 2 * ((V17 0 7).toInt - (V 0 7).toInt) from by first | exact om_b91cb2530a91 ((Imp.go t8 (hp))) | first | omega | ((try (have i_t8 := Imp.go t8 (by omega))); omega)))) (show (V17 0 48).toInt ≤ 8049 - 6 * (V 0 50).toInt from by first | exact om_2495b21da7f9 t9 | first | omega | ((try (have i_t8 := Imp.go t8 (by omega))); omega)) (show (V17 0 50).toInt = (V 0 50).toInt from by first | exact om_570b691c1130 t10 | first | omega | ((try (have i_t8 := Imp.go t8 (by omega))); omega)) (show (V 0 48).toInt ≤ (V17 0 48).toInt from by first | exact om_f4906d00fa52 t11 | first | omega | ((try (have i_t8 := Imp.go t8 (by omega))); omega)) rw307 rw308 rw309 rw310 (by first | exact om_e44dd51abc87 | first | omega | ((try (have i_t8 := Imp.go t8 (by omega))); omega)) alL18 agr.rf hMV17 hP hD hS (lv_sub hl [0] rfl)
