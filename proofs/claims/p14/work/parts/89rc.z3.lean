
set_option maxHeartbeats 4000000 in
set_option maxRecDepth 100000 in
theorem s_partA {l : Launch} {D : va_G} {ks : KS} {dd : Nat} (hk_s_partWithinA : ∀ d9, dd = d9 + 1 → K_s_partWithinA l D ks d9) : K_s_partA l D ks dd := by
  intro sz ad kk V L  bq gn gT gs gl gd hMV rel c1 yd c4 em cdm
  refine g_met (q_s_partA D ks ad kk V L  bq gn gT gs gl gd) (by decide) (Nat.le_of_ble_eq_true rfl) ?_
  intro p e s m below meth c A ls H locs hx hb hr hml hown hg hlocks hin hnw hgk hP hK hD hS hA hl
  replace hown : s.vm.findClass RX12 = some m.cls := hown
  replace hl : lv_has ls 2 [(0, .ref (ad 0))] := hl
  replace hP : va_P D vwCl (mw ad kk ks.1 V L) H := hP
  replace hD : va_D A (mw ad kk ks.1 V L) := hD
  replace hK : va_K D vwCl (mty kk) s := hK
  have agV : agr [(0, 7), (0, 8), (0, 48), (0, 50)] [35, 36, 37, 38, 45, 46, 47] V V := agr.rf
  have alL : agL [35, 36, 37, 38, 45, 46, 47] L L := agL.rf
  have r1 : 0 ≤ ((V 0 48)).toInt ∧ ((V 0 48)).toInt ≤ 10000 := hMV 0 48
  have r2 : 0 ≤ ((V 0 50)).toInt ∧ ((V 0 50)).toInt ≤ 9 := hMV 0 50
  have rg0 := RelM.rg rel
  have cl0 := RelM.cl rel
  have cq0 := RelM.cq rel
  refine lv_aload_n hx hb dX12_part_0 rfl (lv_at hl 0 rfl) ?_
  refine va_get (D := D) (ci := 12) (v := .int (V 0 8)) (C := RX12) (T := TX12) (N := 100) hx hb hg inX12 hown hK hP 0 rfl rfl 8 (by decide) (hg _ w1714) (fun _ h9 => h9) rfl dX12_part_1 ?_
  have r3 : 0 ≤ ((V 0 8)).toInt ∧ ((V 0 8)).toInt ≤ 70000 := hMV 0 8
  refine lv_if_ne (tgt := 22) hx hb dX12_part_4 (by decide) (fun c4 => ?_) (fun c4 => ?_)
  · skip
    have f5 : ((V 0 8)).toInt ≠ 0 := b_neq rfl (by decide) c4
    exfalso; omega
  · skip
    have f6 : ((V 0 8)).toInt = 0 := b_eq rfl (by decide) c4
    refine lv_aload_n hx hb dX12_part_7 rfl (lv_at hl 0 rfl) ?_
    refine gA_int (gA_runV (As := []) (rest := []) (ci := 12) (q0 := 0) hx hb hml hown hg hP hD hK hS hA hnw hgk (s_isPartA l D ks H.size ad kk V L (bq) (gn) (gT) (gs) (gl) hMV rel em) w2132 w2134 w110 w172 w2135 rfl rfl hdV_yX12_isPart ⟨(by show 1 + 1 ≤ 10 * dd + 10; (first | exact om_37214edc89bb | omega)), (by show 8 + (1 + 11) + (21) ≤ 300 * dd + 300; (first | exact om_e1a0806c2c53 | omega))⟩ rfl hl.1 rfl (Nat.le_of_ble_eq_true rfl) dX12_part_8 ⟨Nat.le_of_ble_eq_true rfl, Nat.le_of_ble_eq_true rfl⟩) hP hD hK hS hA (fun z7 u8 H locs w9 hP hD hK hS => ?_)
    obtain ⟨rgz7, t10⟩ := w9
    replace rgz7 : 0 ≤ z7.toInt ∧ z7.toInt ≤ 1 := rgz7
    replace t10 : (z7.toInt = 1 ∧ bgP (gT) (gs)) ∨ (z7.toInt = 0 ∧ ¬ bgP (gT) (gs)) := t10
    rcases t10 with ⟨q11, h12⟩ | ⟨q11, h12⟩
    · skip
      refine lv_if_ne (tgt := 22) hx hb dX12_part_11 (by decide) (fun c13 => ?_) (fun c13 => ?_)
      · skip
        have f14 : z7.toInt ≠ 0 := b_neq rfl (by decide) c13
        refine lv_aload_n hx hb dX12_part_22 rfl (lv_at hl 0 rfl) ?_
        refine va_get (D := D) (ci := 12) (v := .int (V 0 8)) (C := RX12) (T := TX12) (N := 100) hx hb hg inX12 hown hK hP 0 rfl rfl 8 (by decide) (hg _ w1714) (fun _ h9 => h9) rfl dX12_part_23 ?_
        refine lv_if_ne (tgt := 43) hx hb dX12_part_26 (by decide) (fun c15 => ?_) (fun c15 => ?_)
        · skip
          have f16 : ((V 0 8)).toInt ≠ 0 := b_neq rfl (by decide) c15
          exfalso; (first | exact om_fb320d7600b7 r3.1 f6 f16 | omega)
        · skip
          have f17 : ((V 0 8)).toInt = 0 := b_eq rfl (by decide) c15
          refine lv_aload_n hx hb dX12_part_29 rfl (lv_at hl 0 rfl) ?_
          refine va_get (D := D) (ci := 12) (v := .int (V 0 50)) (C := RX12) (T := TX12) (N := 100) hx hb hg inX12 hown hK hP 0 rfl rfl 50 (by decide) (hg _ w1756) (fun _ h9 => h9) rfl dX12_part_30 ?_
          refine lv_bipush (v := 8) hx hb dX12_part_33 (by decide) ?_
          refine lv_icmp_ne (tgt := 43) hx hb dX12_part_35 (by decide) (fun c18 => ?_) (fun c18 => ?_)
          · skip
            have f19 : ((V 0 50)).toInt ≠ 8 := b_neq rfl (by decide) c18
            refine lv_aload_n hx hb dX12_part_43 rfl (lv_at hl 0 rfl) ?_
            refine lv_dup hx hb dX12_part_44 rfl ?_
            refine va_get (D := D) (ci := 12) (v := .int (V 0 50)) (C := RX12) (T := TX12) (N := 100) hx hb hg inX12 hown hK hP 0 rfl rfl 50 (by decide) (hg _ w1756) (fun _ h9 => h9) rfl dX12_part_45 ?_
            refine lv_iconst (v := 1) hx hb dX12_part_48 (by decide) ?_
            refine lv_iadd hx hb dX12_part_49 ?_
            refine lv_topi (fun z20 ez20 => ?_)
            have hz20 : z20.toInt = ((V 0 50)).toInt + 1 := i_add ez20 rfl (by decide) (by (first | exact om_bd3e92610e5a c4 r2.1 | omega))
            refine va_put (D := D) (ci := 12) (v := .int z20) (ty := tyX12 50) (C := RX12) (T := TX12) (N := 100) hx hb hg inX12 tyX12 tyX12_ok nmX12 hown hK hP hD hS 0 rfl rfl 50 (by decide) (hg _ w1756) (fun _ h9 => h9) rfl (tyX12_ok 50 (by decide)) rfl rfl (Nat.le_of_ble_eq_true rfl) dX12_part_50 (fun H locs hP hD hS => ?_)
            obtain ⟨V21, hV21⟩ : ∃ z, z = up2 V 0 50 z20 := ⟨_, rfl⟩
            have hP : va_P D vwCl (mw ad kk ks.1 V21 L) H := by rw [hV21]; exact hP
            have hD : va_D A (mw ad kk ks.1 V21 L) := by rw [hV21]; exact hD
            have hMV21 : rgd bM V21 := hMV.put hV21 (show 0 ≤ z20.toInt ∧ z20.toInt ≤ 9 from by (first | exact om_8d7445b480e1 c4 r2.1 hz20 | omega))
            have agV21 : agr [(0, 7), (0, 8), (0, 48), (0, 50)] [35, 36, 37, 38, 45, 46, 47] V V21 := agV.up hV21 rfl
            refine lv_aload_n hx hb dX12_part_53 rfl (lv_at hl 0 rfl) ?_
            refine va_get (D := D) (ci := 12) (v := .int (V21 0 8)) (C := RX12) (T := TX12) (N := 100) hx hb hg inX12 hown hK hP 0 rfl rfl 8 (by decide) (hg _ w1714) (fun _ h9 => h9) rfl dX12_part_54 ?_
            refine g_top (v := (V 0 8)) (up2_k hV21 (by decide)) ?_
            refine lv_if_ne (tgt := 72) hx hb dX12_part_57 (by decide) (fun c22 => ?_) (fun c22 => ?_)
            · skip
              have f23 : ((V 0 8)).toInt ≠ 0 := b_neq rfl (by decide) c22
              exfalso; (first | exact om_fb320d7600b7 r3.1 f6 f23 | omega)
            · skip
              have f24 : ((V 0 8)).toInt = 0 := b_eq rfl (by decide) c22
              refine lv_aload_n hx hb dX12_part_60 rfl (lv_at hl 0 rfl) ?_
              refine lv_iconst (v := 1) hx hb dX12_part_61 (by decide) ?_
              refine lv_iconst (v := 0) hx hb dX12_part_62 (by decide) ?_
              refine lv_iconst (v := 0) hx hb dX12_part_63 (by decide) ?_
              have rl25 : RelM V21 L bq gn gT gs gl := RelM.ag rel (show agr [(0, 50)] [] V V21 from (agr.up agr.rf hV21 rfl)) (by decide) (show agL [] L L from agL.rf) (by decide)
              have r26 : Int32.toInt 1 = 1 := by decide
              have r27 : Int32.toInt 0 = 0 := by decide
              have pq28 : (V21 0 48).toInt = ((V 0 48)).toInt := congrArg Int32.toInt (up2_k hV21 (by decide))
              refine gA_int (gA_runV (As := [.int 1, .int 0, .int 0]) (rest := []) (ci := 12) (q0 := 0) hx hb hml hown hg hP hD hK hS hA hnw hgk (s_emit3 l D ks H.size ad kk V21 L 1 0 0 hMV21 (show (V21 0 48).toInt ≤ 9999 from by omega)) w2136 w2138 w111 w172 w2139 rfl rfl hdV_yX12_emit ⟨(by show 0 + 1 ≤ 10 * dd + 10; (first | exact om_bb4bde652b63 | omega)), (by show 8 + (4 + 11) + (0) ≤ 300 * dd + 300; (first | exact om_f0732bfeccce | omega))⟩ rfl hl.1 rfl (Nat.le_of_ble_eq_true rfl) dX12_part_64 ⟨Nat.le_of_ble_eq_true rfl, Nat.le_of_ble_eq_true rfl⟩) hP hD hK hS hA (fun z29 u30 H locs w31 hP hD hK hS => ?_)
              obtain ⟨V35, L36⟩ := u30
              obtain ⟨hMV35, ajV35, axL36, rgz29, t32, t33, t34⟩ := w31
              have axL36 : L = L36 := Eq.symm axL36
              subst axL36
              replace hP : va_P D vwCl (mw ad kk ks.1 V35 L) H := hP
              replace hD : va_D A (mw ad kk ks.1 V35 L) := hD
              replace hMV35 : rgd bM V35 := hMV35
              replace ajV35 : agr [(0, 48)] [45, 46, 47] V21 V35 := ajV35
              have agV35 : agr [(0, 7), (0, 8), (0, 48), (0, 50)] [35, 36, 37, 38, 45, 46, 47] V V35 := agV21.tr ajV35 (by decide) (by decide)
              replace rgz29 : 0 ≤ z29.toInt ∧ z29.toInt ≤ 20000 := rgz29
              replace t32 : (V35 0 48).toInt = (V21 0 48).toInt + 1 := t32
              replace t33 : z29.toInt = (V21 0 49).toInt + (V21 0 48).toInt := t33
              replace t34 : emitted V21 V35 (pA V21) 1 0 0 := t34
              have r37 : 0 ≤ ((V35 0 48)).toInt ∧ ((V35 0 48)).toInt ≤ 10000 := hMV35 0 48
              have pq38 : (V21 0 49).toInt = ((V 0 49)).toInt := congrArg Int32.toInt (up2_k hV21 (by decide))
              have r39 : 0 ≤ ((V 0 49)).toInt ∧ ((V 0 49)).toInt ≤ 10000 := hMV 0 49
              have cd41 : CDm V21 (10000 * bq) gs := CDm.ag cdm (show agr [(0, 50)] [] V V21 from (agr.up agr.rf hV21 rfl)) ⟨rfl, rfl, fun _ => ⟨rfl, rfl, rfl⟩⟩
              have cd40 : CDm V35 (10000 * bq) (emS gs 1 0 0) := CDm.e0 cd41 t32 (ajV35 0 49 rfl) t34 (by decide) (by decide) (by decide) (by decide)
              refine lv_istore_n (lv' := [(1, .int z29), (0, .ref (ad 0))]) hx hb dX12_part_67 rfl hl (by decide) rfl (fun ls hl => ?_)
              refine lv_aload_n hx hb dX12_part_68 rfl (lv_at hl 1 rfl) ?_
              obtain ⟨d9, rfl⟩ : ∃ d9, dd = d9 + 1 := ⟨dd - 1, by omega⟩
              have rl42 : RelM V35 L bq gn gT gs gl := RelM.ag rl25 (show agr [(0, 48)] [45, 46, 47] V21 V35 from (agr.tr agr.rf ajV35 (by decide) (by decide))) (by decide) (show agL [] L L from agL.rf) (by decide)
              have hr43 : ∀ k, Rc gT (Crun gs (Ipart gd :: k)) (Crun gs (Ipart gd :: k)) := fun k => Rc.rf
              have pq44 : (V35 0 7).toInt = ((V 0 7)).toInt := congrArg Int32.toInt ((ajV35 0 7 rfl).trans (up2_k hV21 (by decide)))
              have pq45 : (V35 0 50).toInt = z20.toInt := congrArg Int32.toInt ((ajV35 0 50 rfl).trans (up2_s hV21))
              refine gA_void (gA_runV (As := []) (rest := []) (ci := 12) (q0 := 0) hx hb hml hown hg hP hD hK hS hA hnw hgk ((hk_s_partWithinA d9 rfl) H.size ad kk V35 L (bq) (gn) (gT) (gs) (gl) (gd) hMV35 rl42 (show (V35 0 48).toInt ≤ 2 * (V35 0 7).toInt + 1 from by (first | exact om_d95fc1e632c2 c1 pq28 t32 pq44 | omega)) (show (V35 0 50).toInt = ((gd) : Int) + 1 from by (first | exact om_fd2435d327c9 yd hz20 pq45 | omega)) (show ((gd) : Int) ≤ 7 from by omega) h12 (show (V35 0 50).toInt + ((d9 : Nat) : Int) = 8 from by omega) (EM.mv em ((ajV35 0 51 rfl).trans (up2_k hV21 (by decide))) ((ajV35 0 52 rfl).trans (up2_k hV21 (by decide))) (by rw [(funext (fun q => ajV35 27 q rfl) : V35 27 = V21 27), (up2_fo hV21 (by decide) : V21 27 = V 27)] : V35 27 = V 27) (fun _ _ => rfl)) cd40) w2140 w2142 w112 w172 w2143 rfl rfl hdV_yX12_partWithin ⟨(by show 10 * d9 + 15 + 1 ≤ 10 * (d9 + 1) + 10; omega), (by show 8 + (4 + 11) + (300 * d9 + 500) ≤ 300 * (d9 + 1) + 300; omega)⟩ rfl hl.1 rfl (Nat.le_of_ble_eq_true rfl) dX12_part_69 ⟨Nat.le_of_ble_eq_true rfl, Nat.le_of_ble_eq_true rfl⟩) hP hD hK hS hA (fun u47 H locs w48 hP hD hK hS => ?_)
              obtain ⟨V58, L59⟩ := u47
              obtain ⟨hMV58, ajV58, axL59, t49, t50, t51, t52, t53, t54, t55, t56, t57⟩ := w48
              have alL59 : agL [35, 36, 37, 38, 45, 46, 47] L L59 := agL.tr alL axL59 (by decide)
              replace hP : va_P D vwCl (mw ad kk ks.1 V58 L59) H := hP
              replace hD : va_D A (mw ad kk ks.1 V58 L59) := hD
              replace hMV58 : rgd bM V58 := hMV58
              replace ajV58 : agr [(0, 7), (0, 8), (0, 48), (0, 50)] [35, 36, 37, 38, 45, 46, 47] V35 V58 := ajV58
              have agV58 : agr [(0, 7), (0, 8), (0, 48), (0, 50)] [35, 36, 37, 38, 45, 46, 47] V V58 := agV35.tr ajV58 (by decide) (by decide)
              replace t49 : Imp ((V58 0 8).toInt = 0) ((V58 0 48).toInt - (V35 0 48).toInt + 1 ≤ 2 * ((V58 0 7).toInt - (V35 0 7).toInt)) := t49
              replace t50 : (V58 0 48).toInt ≤ 8054 - 6 * (V35 0 50).toInt := t50
              replace t51 : (V58 0 50).toInt = (V35 0 50).toInt := t51
              replace t52 : (V35 0 48).toInt ≤ (V58 0 48).toInt := t52
              replace t53 : RdM (gT) (gs) (fun k => Ipart (gd) :: k) (fun k => k) (V58 0 8).toInt (fun s9 => RelM V58 L59 (bq) (gn) (gT) s9 (gl) ∧ keepS (gs) 1 s9 ∧ keepE (gs) s9 ∧ CDm V58 (10000 * (bq)) s9) := t53
              replace t54 : RoV 35 (bq) V35 V58 := t54
              replace t55 : RoV 37 (bq) V35 V58 := t55
              replace t56 : RoL 36 20 (bq) L L59 := t56
              replace t57 : RoL 38 20 (bq) L L59 := t57
              have r60 : 0 ≤ ((V58 0 48)).toInt ∧ ((V58 0 48)).toInt ≤ 10000 := hMV58 0 48
              have r61 : 0 ≤ ((V58 0 8)).toInt ∧ ((V58 0 8)).toInt ≤ 70000 := hMV58 0 8
              have r62 : 0 ≤ ((V58 0 50)).toInt ∧ ((V58 0 50)).toInt ≤ 9 := hMV58 0 50
              rcases t53 with ⟨q63, sx64, h65, rl66, kp67, ke68, cd69⟩ | ⟨q63, h65⟩
              · skip
                have hr70 : ∀ k, Rc gT (Crun gs (Ipart gd :: k)) (Crun sx64 (k)) := fun k => (hr43 k).tr (h65 (k))
                have fz71 := RelM.rg rl66
                have ps72 := (kp67).1
                refine lv_aload_n hx hb dX12_part_72 rfl (lv_at hl 1 rfl) ?_
                refine lv_dup hx hb dX12_part_73 rfl ?_
                refine va_get (D := D) (ci := 12) (v := .int (V58 0 50)) (C := RX12) (T := TX12) (N := 100) hx hb hg inX12 hown hK hP 0 rfl rfl 50 (by decide) (hg _ w1756) (fun _ h9 => h9) rfl dX12_part_74 ?_
                refine lv_iconst (v := 1) hx hb dX12_part_77 (by decide) ?_
                refine lv_isub hx hb dX12_part_78 ?_
                refine lv_topi (fun z73 ez73 => ?_)
                have hz73 : z73.toInt = ((V58 0 50)).toInt - 1 := i_sub ez73 rfl (by decide) (by (first | exact om_a99e9373e089 r2.1 hz20 pq45 t51 r62.2 | omega))
                refine va_put (D := D) (ci := 12) (v := .int z73) (ty := tyX12 50) (C := RX12) (T := TX12) (N := 100) hx hb hg inX12 tyX12 tyX12_ok nmX12 hown hK hP hD hS 0 rfl rfl 50 (by decide) (hg _ w1756) (fun _ h9 => h9) rfl (tyX12_ok 50 (by decide)) rfl rfl (Nat.le_of_ble_eq_true rfl) dX12_part_79 (fun H locs hP hD hS => ?_)
                obtain ⟨V74, hV74⟩ : ∃ z, z = up2 V58 0 50 z73 := ⟨_, rfl⟩
                have hP : va_P D vwCl (mw ad kk ks.1 V74 L59) H := by rw [hV74]; exact hP
                have hD : va_D A (mw ad kk ks.1 V74 L59) := by rw [hV74]; exact hD
                have hMV74 : rgd bM V74 := hMV58.put hV74 (show 0 ≤ z73.toInt ∧ z73.toInt ≤ 9 from by first | exact om_82d7566284b9 r2.1 hz20 pq45 t51 r62.2 hz73 | first | omega | ((try (have i_t49 := Imp.go t49 (by omega))); omega))
                have agV74 : agr [(0, 7), (0, 8), (0, 48), (0, 50)] [35, 36, 37, 38, 45, 46, 47] V V74 := agV58.up hV74 rfl
                have pq75 : (V74 0 7).toInt = ((V58 0 7)).toInt := congrArg Int32.toInt (up2_k hV74 (by decide))
                have pq76 : (V74 0 48).toInt = ((V58 0 48)).toInt := congrArg Int32.toInt (up2_k hV74 (by decide))
                have pq77 : (V74 0 8).toInt = ((V58 0 8)).toInt := congrArg Int32.toInt (up2_k hV74 (by decide))
                have pq78 : (V74 0 50).toInt = z73.toInt := congrArg Int32.toInt (up2_s hV74)
                have rl79 : RelM V74 L59 bq gn gT sx64 gl := RelM.ag rl66 (show agr [(0, 50)] [] V58 V74 from (agr.up agr.rf hV74 rfl)) (by decide) (show agL [] L59 L59 from agL.rf) (by decide)
                have cd80 : CDm V74 (10000 * bq) sx64 := CDm.ag cd69 (show agr [(0, 50)] [] V58 V74 from (agr.up agr.rf hV74 rfl)) ⟨rfl, rfl, fun _ => ⟨rfl, rfl, rfl⟩⟩
                have rw81 : RoV 35 bq V V74 := (fun k hk => ((up2_o hV74 (by decide)).trans ((t54 k hk).trans ((ajV35 35 k rfl).trans ((up2_o hV21 (by decide)).trans rfl)))))
                have rw82 : RoV 37 bq V V74 := (fun k hk => ((up2_o hV74 (by decide)).trans ((t55 k hk).trans ((ajV35 37 k rfl).trans ((up2_o hV21 (by decide)).trans rfl)))))
                have rw83 : RoL 36 20 bq L L59 := (fun k hk => ((t56 k hk).trans rfl))
                have rw84 : RoL 38 20 bq L L59 := (fun k hk => ((t57 k hk).trans rfl))
                exact W.vret hx hb hr (fun t ht hW => ⟨⟨(V74, L59), rfl, ⟨hMV74, agV74, alL59, (Imp.mk (fun hp => have hp : (V74 0 8).toInt = 0 := hp; (show (V74 0 48).toInt - (V 0 48).toInt ≤ 2 * ((V74 0 7).toInt - (V 0 7).toInt) from by first | exact om_340805fa7ccf pq28 t32 pq44 pq75 pq76 ((Imp.go t49 ((pq77.symm).trans (hp)))) | first | omega | ((try (have i_t49 := Imp.go t49 (by omega))); omega)))), (show (V74 0 48).toInt ≤ 8048 - 6 * (V 0 50).toInt from by first | exact om_e12af4040232 hz20 pq45 t50 pq76 | first | omega | ((try (have i_t49 := Imp.go t49 (by omega))); omega)), (show (V74 0 50).toInt = (V 0 50).toInt from by first | exact om_1d7e93547bc9 hz20 pq45 t51 hz73 pq78 | first | omega | ((try (have i_t49 := Imp.go t49 (by omega))); omega)), (show (V 0 48).toInt ≤ (V74 0 48).toInt from by first | exact om_58b6fa9c404f pq28 t32 t52 pq76 | first | omega | ((try (have i_t49 := Imp.go t49 (by omega))); omega)), (Or.inl ⟨W0 rl79, sx64, hr70, rl79, keepS.le (keepS.tr (keepS.rf : keepS gs 0 gs) kp67) (by decide), (keepE.tr (keepE.rf : keepE gs gs) ke68), cd80⟩), rw81, rw82, rw83, rw84⟩, by rw [ht]; exact hP, va_K.moved hW.alike hK, hD⟩, hS.F ht⟩) hS.2.2 dX12_part_82
              · skip
                have hb85 : ∀ k, Rc gT (Crun gs (Ipart gd :: k)) (Cbad (V58 0 8).toInt) := fun k => (hr43 k).tr (h65 (k))
                refine lv_aload_n hx hb dX12_part_72 rfl (lv_at hl 1 rfl) ?_
                refine lv_dup hx hb dX12_part_73 rfl ?_
                refine va_get (D := D) (ci := 12) (v := .int (V58 0 50)) (C := RX12) (T := TX12) (N := 100) hx hb hg inX12 hown hK hP 0 rfl rfl 50 (by decide) (hg _ w1756) (fun _ h9 => h9) rfl dX12_part_74 ?_
                refine lv_iconst (v := 1) hx hb dX12_part_77 (by decide) ?_
                refine lv_isub hx hb dX12_part_78 ?_
                refine lv_topi (fun z86 ez86 => ?_)
                have hz86 : z86.toInt = ((V58 0 50)).toInt - 1 := i_sub ez86 rfl (by decide) (by (first | exact om_a99e9373e089 r2.1 hz20 pq45 t51 r62.2 | omega))
                refine va_put (D := D) (ci := 12) (v := .int z86) (ty := tyX12 50) (C := RX12) (T := TX12) (N := 100) hx hb hg inX12 tyX12 tyX12_ok nmX12 hown hK hP hD hS 0 rfl rfl 50 (by decide) (hg _ w1756) (fun _ h9 => h9) rfl (tyX12_ok 50 (by decide)) rfl rfl (Nat.le_of_ble_eq_true rfl) dX12_part_79 (fun H locs hP hD hS => ?_)
                obtain ⟨V87, hV87⟩ : ∃ z, z = up2 V58 0 50 z86 := ⟨_, rfl⟩
                have hP : va_P D vwCl (mw ad kk ks.1 V87 L59) H := by rw [hV87]; exact hP
                have hD : va_D A (mw ad kk ks.1 V87 L59) := by rw [hV87]; exact hD
                have hMV87 : rgd bM V87 := hMV58.put hV87 (show 0 ≤ z86.toInt ∧ z86.toInt ≤ 9 from by first | exact om_82d7566284b9 r2.1 hz20 pq45 t51 r62.2 hz86 | first | omega | ((try (have i_t49 := Imp.go t49 (by omega))); omega))
                have agV87 : agr [(0, 7), (0, 8), (0, 48), (0, 50)] [35, 36, 37, 38, 45, 46, 47] V V87 := agV58.up hV87 rfl
                have pq88 : (V87 0 7).toInt = ((V58 0 7)).toInt := congrArg Int32.toInt (up2_k hV87 (by decide))
                have pq89 : (V87 0 48).toInt = ((V58 0 48)).toInt := congrArg Int32.toInt (up2_k hV87 (by decide))
                have pq90 : (V87 0 8).toInt = ((V58 0 8)).toInt := congrArg Int32.toInt (up2_k hV87 (by decide))
                have pq91 : (V87 0 50).toInt = z86.toInt := congrArg Int32.toInt (up2_s hV87)
                have rw92 : RoV 35 bq V V87 := (fun k hk => ((up2_o hV87 (by decide)).trans ((t54 k hk).trans ((ajV35 35 k rfl).trans ((up2_o hV21 (by decide)).trans rfl)))))
                have rw93 : RoV 37 bq V V87 := (fun k hk => ((up2_o hV87 (by decide)).trans ((t55 k hk).trans ((ajV35 37 k rfl).trans ((up2_o hV21 (by decide)).trans rfl)))))
                have rw94 : RoL 36 20 bq L L59 := (fun k hk => ((t56 k hk).trans rfl))
                have rw95 : RoL 38 20 bq L L59 := (fun k hk => ((t57 k hk).trans rfl))
                exact W.vret hx hb hr (fun t ht hW => ⟨⟨(V87, L59), rfl, ⟨hMV87, agV87, alL59, (Imp.mk (fun hp => have hp : (V87 0 8).toInt = 0 := hp; (show (V87 0 48).toInt - (V 0 48).toInt ≤ 2 * ((V87 0 7).toInt - (V 0 7).toInt) from by first | exact om_340805fa7ccf pq28 t32 pq44 pq88 pq89 ((Imp.go t49 ((pq90.symm).trans (hp)))) | first | omega | ((try (have i_t49 := Imp.go t49 (by omega))); omega)))), (show (V87 0 48).toInt ≤ 8048 - 6 * (V 0 50).toInt from by first | exact om_e12af4040232 hz20 pq45 t50 pq89 | first | omega | ((try (have i_t49 := Imp.go t49 (by omega))); omega)), (show (V87 0 50).toInt = (V 0 50).toInt from by first | exact om_1d7e93547bc9 hz20 pq45 t51 hz86 pq91 | first | omega | ((try (have i_t49 := Imp.go t49 (by omega))); omega)), (show (V 0 48).toInt ≤ (V87 0 48).toInt from by first | exact om_58b6fa9c404f pq28 t32 t52 pq89 | first | omega | ((try (have i_t49 := Imp.go t49 (by omega))); omega)), (Or.inr ⟨(show 1 ≤ (V87 0 8).toInt from by omega), (fun k => by rw [show (V87 0 8).toInt = (V58 0 8).toInt from by omega]; exact hb85 k)⟩), rw92, rw93, rw94, rw95⟩, by rw [ht]; exact hP, va_K.moved hW.alike hK, hD⟩, hS.F ht⟩) hS.2.2 dX12_part_82
          · skip
            have f96 : ((V 0 50)).toInt = 8 := b_eq rfl (by decide) c18
            refine lv_aload_n hx hb dX12_part_38 rfl (lv_at hl 0 rfl) ?_
            refine lv_iconst (v := 5) hx hb dX12_part_39 (by decide) ?_
            have r97 : Int32.toInt 5 = 5 := by decide
            refine gA_void (gA_runV (As := [.int 5]) (rest := []) (ci := 12) (q0 := 0) hx hb hml hown hg hP hD hK hS hA hnw hgk (s_wrongA l D ks H.size ad kk V L 5 (bq) (gn) (gT) (gs) (gl) hMV (by decide) rel) w2035 w2037 w86 w172 w2038 rfl rfl hdV_yX12_wrong ⟨(by show 0 + 1 ≤ 10 * dd + 10; (first | exact om_bb4bde652b63 | omega)), (by show 8 + (2 + 11) + (0) ≤ 300 * dd + 300; (first | exact om_1f97efb5c0c8 | omega))⟩ rfl hl.1 rfl (Nat.le_of_ble_eq_true rfl) dX12_part_40 ⟨Nat.le_of_ble_eq_true rfl, Nat.le_of_ble_eq_true rfl⟩) hP hD hK hS hA (fun u99 H locs w100 hP hD hK hS => ?_)
            obtain ⟨V103, L104⟩ := u99
            obtain ⟨hMV103, ajV103, axL104, t101, t102⟩ := w100
            have axL104 : L = L104 := Eq.symm axL104
            subst axL104
            replace hP : va_P D vwCl (mw ad kk ks.1 V103 L) H := hP
            replace hD : va_D A (mw ad kk ks.1 V103 L) := hD
            replace hMV103 : rgd bM V103 := hMV103
            replace ajV103 : agr [(0, 8)] [] V V103 := ajV103
            have agV103 : agr [(0, 7), (0, 8), (0, 48), (0, 50)] [35, 36, 37, 38, 45, 46, 47] V V103 := agV.tr ajV103 (by decide) (by decide)
            replace t101 : 1 ≤ (V103 0 8).toInt := t101
            replace t102 : (V103 0 8).toInt = (Int32.toInt 5) + 16 * (gT).2.2 ((gs).1 0) := t102
            have r105 : 0 ≤ ((V103 0 8)).toInt ∧ ((V103 0 8)).toInt ≤ 70000 := hMV103 0 8
            have hr106 : ∀ k, Rc gT (Crun gs (Ipart gd :: k)) (Crun gs (Ipart gd :: k)) := fun k => Rc.rf
            have hb107 : ∀ k, Rc gT (Crun gs (Ipart gd :: k)) (Cbad (V103 0 8).toInt) := fun k => Rc.go1 (hr106 k) ((part_5 gd h12 (by (first | exact om_677b6fa9a1cc yd f96 | omega))).trans (fl_eq rfl (show (V103 0 8).toInt = 5 + 16 * gT.2.2 (gs.1 0) from by omega)))
            refine lv_aload_n hx hb dX12_part_43 rfl (lv_at hl 0 rfl) ?_
            refine lv_dup hx hb dX12_part_44 rfl ?_
            refine va_get (D := D) (ci := 12) (v := .int (V103 0 50)) (C := RX12) (T := TX12) (N := 100) hx hb hg inX12 hown hK hP 0 rfl rfl 50 (by decide) (hg _ w1756) (fun _ h9 => h9) rfl dX12_part_45 ?_
            refine g_top (v := (V 0 50)) (ajV103 0 50 rfl) ?_
            refine lv_iconst (v := 1) hx hb dX12_part_48 (by decide) ?_
            refine lv_iadd hx hb dX12_part_49 ?_
            refine lv_topi (fun z108 ez108 => ?_)
            have hz108 : z108.toInt = ((V 0 50)).toInt + 1 := i_add ez108 rfl (by decide) (by (first | exact om_5799d5b78762 f96 | omega))
            refine va_put (D := D) (ci := 12) (v := .int z108) (ty := tyX12 50) (C := RX12) (T := TX12) (N := 100) hx hb hg inX12 tyX12 tyX12_ok nmX12 hown hK hP hD hS 0 rfl rfl 50 (by decide) (hg _ w1756) (fun _ h9 => h9) rfl (tyX12_ok 50 (by decide)) rfl rfl (Nat.le_of_ble_eq_true rfl) dX12_part_50 (fun H locs hP hD hS => ?_)
            obtain ⟨V109, hV109⟩ : ∃ z, z = up2 V103 0 50 z108 := ⟨_, rfl⟩
            have hP : va_P D vwCl (mw ad kk ks.1 V109 L) H := by rw [hV109]; exact hP
            have hD : va_D A (mw ad kk ks.1 V109 L) := by rw [hV109]; exact hD
            have hMV109 : rgd bM V109 := hMV103.put hV109 (show 0 ≤ z108.toInt ∧ z108.toInt ≤ 9 from by (first | exact om_85525124a780 f96 hz108 | omega))
            have agV109 : agr [(0, 7), (0, 8), (0, 48), (0, 50)] [35, 36, 37, 38, 45, 46, 47] V V109 := agV103.up hV109 rfl
            refine lv_aload_n hx hb dX12_part_53 rfl (lv_at hl 0 rfl) ?_
            refine va_get (D := D) (ci := 12) (v := .int (V109 0 8)) (C := RX12) (T := TX12) (N := 100) hx hb hg inX12 hown hK hP 0 rfl rfl 8 (by decide) (hg _ w1714) (fun _ h9 => h9) rfl dX12_part_54 ?_
            refine g_top (v := (V103 0 8)) (up2_k hV109 (by decide)) ?_
            refine lv_if_ne (tgt := 72) hx hb dX12_part_57 (by decide) (fun c110 => ?_) (fun c110 => ?_)
            · skip
              have f111 : ((V103 0 8)).toInt ≠ 0 := b_neq rfl (by decide) c110
              refine lv_aload_n hx hb dX12_part_72 rfl (lv_at hl 0 rfl) ?_
              refine lv_dup hx hb dX12_part_73 rfl ?_
              refine va_get (D := D) (ci := 12) (v := .int (V109 0 50)) (C := RX12) (T := TX12) (N := 100) hx hb hg inX12 hown hK hP 0 rfl rfl 50 (by decide) (hg _ w1756) (fun _ h9 => h9) rfl dX12_part_74 ?_
              refine g_top (v := z108) (up2_s hV109) ?_
              refine lv_iconst (v := 1) hx hb dX12_part_77 (by decide) ?_
              refine lv_isub hx hb dX12_part_78 ?_
              refine lv_topi (fun z112 ez112 => ?_)
              have hz112 : z112.toInt = z108.toInt - 1 := i_sub ez112 rfl (by decide) (by (first | exact om_e5d95af54b9a f96 hz108 | omega))
              refine va_put (D := D) (ci := 12) (v := .int z112) (ty := tyX12 50) (C := RX12) (T := TX12) (N := 100) hx hb hg inX12 tyX12 tyX12_ok nmX12 hown hK hP hD hS 0 rfl rfl 50 (by decide) (hg _ w1756) (fun _ h9 => h9) rfl (tyX12_ok 50 (by decide)) rfl rfl (Nat.le_of_ble_eq_true rfl) dX12_part_79 (fun H locs hP hD hS => ?_)
              obtain ⟨V113, hV113⟩ : ∃ z, z = up2 V109 0 50 z112 := ⟨_, rfl⟩
              have hP : va_P D vwCl (mw ad kk ks.1 V113 L) H := by rw [hV113]; exact hP
              have hD : va_D A (mw ad kk ks.1 V113 L) := by rw [hV113]; exact hD
              have hMV113 : rgd bM V113 := hMV109.put hV113 (show 0 ≤ z112.toInt ∧ z112.toInt ≤ 9 from by (first | exact om_3659b9a5dc43 f96 hz108 hz112 | omega))
              have agV113 : agr [(0, 7), (0, 8), (0, 48), (0, 50)] [35, 36, 37, 38, 45, 46, 47] V V113 := agV109.up hV113 rfl
              have pq114 : (V113 0 7).toInt = ((V 0 7)).toInt := congrArg Int32.toInt ((up2_k hV113 (by decide)).trans ((up2_k hV109 (by decide)).trans (ajV103 0 7 rfl)))
              have pq115 : (V113 0 48).toInt = ((V 0 48)).toInt := congrArg Int32.toInt ((up2_k hV113 (by decide)).trans ((up2_k hV109 (by decide)).trans (ajV103 0 48 rfl)))
              have pq116 : (V113 0 8).toInt = ((V103 0 8)).toInt := congrArg Int32.toInt ((up2_k hV113 (by decide)).trans (up2_k hV109 (by decide)))
              have pq117 : (V113 0 50).toInt = z112.toInt := congrArg Int32.toInt (up2_s hV113)
              have rw118 : RoV 35 bq V V113 := (fun k hk => ((up2_o hV113 (by decide)).trans ((up2_o hV109 (by decide)).trans ((ajV103 35 k rfl).trans rfl))))
              have rw119 : RoV 37 bq V V113 := (fun k hk => ((up2_o hV113 (by decide)).trans ((up2_o hV109 (by decide)).trans ((ajV103 37 k rfl).trans rfl))))
              have rw120 : RoL 36 20 bq L L := (fun k hk => rfl)
              have rw121 : RoL 38 20 bq L L := (fun k hk => rfl)
              exact W.vret hx hb hr (fun t ht hW => ⟨⟨(V113, L), rfl, ⟨hMV113, agV113, alL, (Imp.mk (fun hp => have hp : (V113 0 8).toInt = 0 := hp; (show (V113 0 48).toInt - (V 0 48).toInt ≤ 2 * ((V113 0 7).toInt - (V 0 7).toInt) from by omega))), (show (V113 0 48).toInt ≤ 8048 - 6 * (V 0 50).toInt from by omega), (show (V113 0 50).toInt = (V 0 50).toInt from by (first | exact om_688aeadf4b2f hz108 hz112 pq117 | omega)), (show (V 0 48).toInt ≤ (V113 0 48).toInt from by (first | exact om_abdc88b0c8fc pq115 | omega)), (Or.inr ⟨(show 1 ≤ (V113 0 8).toInt from by (first | exact om_e3c391a03e81 t101 pq116 | omega)), (fun k => by rw [show (V113 0 8).toInt = (V103 0 8).toInt from by omega]; exact hb107 k)⟩), rw118, rw119, rw120, rw121⟩, by rw [ht]; exact hP, va_K.moved hW.alike hK, hD⟩, hS.F ht⟩) hS.2.2 dX12_part_82
            · skip
              have f122 : ((V103 0 8)).toInt = 0 := b_eq rfl (by decide) c110
              exfalso; (first | exact om_09885ab343b9 t101 f122 | omega)
      · skip
        have f123 : z7.toInt = 0 := b_eq rfl (by decide) c13
        exfalso; omega
    · skip
      refine lv_if_ne (tgt := 22) hx hb dX12_part_11 (by decide) (fun c124 => ?_) (fun c124 => ?_)
      · skip
        have f125 : z7.toInt ≠ 0 := b_neq rfl (by decide) c124
        exfalso; omega
      · skip
        have f126 : z7.toInt = 0 := b_eq rfl (by decide) c124
        refine lv_aload_n hx hb dX12_part_14 rfl (lv_at hl 0 rfl) ?_
        refine lv_iconst (v := 1) hx hb dX12_part_15 (by decide) ?_
        have r127 : Int32.toInt 1 = 1 := by decide
        refine gA_void (gA_runV (As := [.int 1]) (rest := []) (ci := 12) (q0 := 0) hx hb hml hown hg hP hD hK hS hA hnw hgk (s_wrongA l D ks H.size ad kk V L 1 (bq) (gn) (gT) (gs) (gl) hMV (by decide) rel) w2035 w2037 w86 w172 w2038 rfl rfl hdV_yX12_wrong ⟨(by show 0 + 1 ≤ 10 * dd + 10; (first | exact om_bb4bde652b63 | omega)), (by show 8 + (2 + 11) + (0) ≤ 300 * dd + 300; (first | exact om_1f97efb5c0c8 | omega))⟩ rfl hl.1 rfl (Nat.le_of_ble_eq_true rfl) dX12_part_16 ⟨Nat.le_of_ble_eq_true rfl, Nat.le_of_ble_eq_true rfl⟩) hP hD hK hS hA (fun u129 H locs w130 hP hD hK hS => ?_)
        obtain ⟨V133, L134⟩ := u129
        obtain ⟨hMV133, ajV133, axL134, t131, t132⟩ := w130
        have axL134 : L = L134 := Eq.symm axL134
        subst axL134
        replace hP : va_P D vwCl (mw ad kk ks.1 V133 L) H := hP
        replace hD : va_D A (mw ad kk ks.1 V133 L) := hD
        replace hMV133 : rgd bM V133 := hMV133
        replace ajV133 : agr [(0, 8)] [] V V133 := ajV133
        have agV133 : agr [(0, 7), (0, 8), (0, 48), (0, 50)] [35, 36, 37, 38, 45, 46, 47] V V133 := agV.tr ajV133 (by decide) (by decide)
        replace t131 : 1 ≤ (V133 0 8).toInt := t131
        replace t132 : (V133 0 8).toInt = (Int32.toInt 1) + 16 * (gT).2.2 ((gs).1 0) := t132
        have r135 : 0 ≤ ((V133 0 8)).toInt ∧ ((V133 0 8)).toInt ≤ 70000 := hMV133 0 8
        have hr136 : ∀ k, Rc gT (Crun gs (Ipart gd :: k)) (Crun gs (Ipart gd :: k)) := fun k => Rc.rf
        have hb137 : ∀ k, Rc gT (Crun gs (Ipart gd :: k)) (Cbad (V133 0 8).toInt) := fun k => Rc.go1 (hr136 k) ((part_1 gd h12).trans (fl_eq rfl (show (V133 0 8).toInt = 1 + 16 * gT.2.2 (gs.1 0) from by omega)))
        refine lv_goto (tgt := 43) hx hb dX12_part_19 (by decide) ?_
        refine lv_aload_n hx hb dX12_part_43 rfl (lv_at hl 0 rfl) ?_
        refine lv_dup hx hb dX12_part_44 rfl ?_
        refine va_get (D := D) (ci := 12) (v := .int (V133 0 50)) (C := RX12) (T := TX12) (N := 100) hx hb hg inX12 hown hK hP 0 rfl rfl 50 (by decide) (hg _ w1756) (fun _ h9 => h9) rfl dX12_part_45 ?_
        refine g_top (v := (V 0 50)) (ajV133 0 50 rfl) ?_
        refine lv_iconst (v := 1) hx hb dX12_part_48 (by decide) ?_
        refine lv_iadd hx hb dX12_part_49 ?_
        refine lv_topi (fun z138 ez138 => ?_)
        have hz138 : z138.toInt = ((V 0 50)).toInt + 1 := i_add ez138 rfl (by decide) (by (first | exact om_bd3e92610e5a c4 r2.1 | omega))
        refine va_put (D := D) (ci := 12) (v := .int z138) (ty := tyX12 50) (C := RX12) (T := TX12) (N := 100) hx hb hg inX12 tyX12 tyX12_ok nmX12 hown hK hP hD hS 0 rfl rfl 50 (by decide) (hg _ w1756) (fun _ h9 => h9) rfl (tyX12_ok 50 (by decide)) rfl rfl (Nat.le_of_ble_eq_true rfl) dX12_part_50 (fun H locs hP hD hS => ?_)
        obtain ⟨V139, hV139⟩ : ∃ z, z = up2 V133 0 50 z138 := ⟨_, rfl⟩
        have hP : va_P D vwCl (mw ad kk ks.1 V139 L) H := by rw [hV139]; exact hP
        have hD : va_D A (mw ad kk ks.1 V139 L) := by rw [hV139]; exact hD
        have hMV139 : rgd bM V139 := hMV133.put hV139 (show 0 ≤ z138.toInt ∧ z138.toInt ≤ 9 from by (first | exact om_8d7445b480e1 c4 r2.1 hz138 | omega))
        have agV139 : agr [(0, 7), (0, 8), (0, 48), (0, 50)] [35, 36, 37, 38, 45, 46, 47] V V139 := agV133.up hV139 rfl
        refine lv_aload_n hx hb dX12_part_53 rfl (lv_at hl 0 rfl) ?_
        refine va_get (D := D) (ci := 12) (v := .int (V139 0 8)) (C := RX12) (T := TX12) (N := 100) hx hb hg inX12 hown hK hP 0 rfl rfl 8 (by decide) (hg _ w1714) (fun _ h9 => h9) rfl dX12_part_54 ?_
        refine g_top (v := (V133 0 8)) (up2_k hV139 (by decide)) ?_
        refine lv_if_ne (tgt := 72) hx hb dX12_part_57 (by decide) (fun c140 => ?_) (fun c140 => ?_)
        · skip
          have f141 : ((V133 0 8)).toInt ≠ 0 := b_neq rfl (by decide) c140
          refine lv_aload_n hx hb dX12_part_72 rfl (lv_at hl 0 rfl) ?_
          refine lv_dup hx hb dX12_part_73 rfl ?_
          refine va_get (D := D) (ci := 12) (v := .int (V139 0 50)) (C := RX12) (T := TX12) (N := 100) hx hb hg inX12 hown hK hP 0 rfl rfl 50 (by decide) (hg _ w1756) (fun _ h9 => h9) rfl dX12_part_74 ?_
          refine g_top (v := z138) (up2_s hV139) ?_
          refine lv_iconst (v := 1) hx hb dX12_part_77 (by decide) ?_
          refine lv_isub hx hb dX12_part_78 ?_
          refine lv_topi (fun z142 ez142 => ?_)
          have hz142 : z142.toInt = z138.toInt - 1 := i_sub ez142 rfl (by decide) (by (first | exact om_492a70219c59 c4 r2.1 hz138 | omega))
          refine va_put (D := D) (ci := 12) (v := .int z142) (ty := tyX12 50) (C := RX12) (T := TX12) (N := 100) hx hb hg inX12 tyX12 tyX12_ok nmX12 hown hK hP hD hS 0 rfl rfl 50 (by decide) (hg _ w1756) (fun _ h9 => h9) rfl (tyX12_ok 50 (by decide)) rfl rfl (Nat.le_of_ble_eq_true rfl) dX12_part_79 (fun H locs hP hD hS => ?_)
          obtain ⟨V143, hV143⟩ : ∃ z, z = up2 V139 0 50 z142 := ⟨_, rfl⟩
          have hP : va_P D vwCl (mw ad kk ks.1 V143 L) H := by rw [hV143]; exact hP
          have hD : va_D A (mw ad kk ks.1 V143 L) := by rw [hV143]; exact hD
          have hMV143 : rgd bM V143 := hMV139.put hV143 (show 0 ≤ z142.toInt ∧ z142.toInt ≤ 9 from by (first | exact om_9895f85a8d60 c4 r2.1 hz138 hz142 | omega))
          have agV143 : agr [(0, 7), (0, 8), (0, 48), (0, 50)] [35, 36, 37, 38, 45, 46, 47] V V143 := agV139.up hV143 rfl
          have pq144 : (V143 0 7).toInt = ((V 0 7)).toInt := congrArg Int32.toInt ((up2_k hV143 (by decide)).trans ((up2_k hV139 (by decide)).trans (ajV133 0 7 rfl)))
          have pq145 : (V143 0 48).toInt = ((V 0 48)).toInt := congrArg Int32.toInt ((up2_k hV143 (by decide)).trans ((up2_k hV139 (by decide)).trans (ajV133 0 48 rfl)))
          have pq146 : (V143 0 8).toInt = ((V133 0 8)).toInt := congrArg Int32.toInt ((up2_k hV143 (by decide)).trans (up2_k hV139 (by decide)))
          have pq147 : (V143 0 50).toInt = z142.toInt := congrArg Int32.toInt (up2_s hV143)
          have rw148 : RoV 35 bq V V143 := (fun k hk => ((up2_o hV143 (by decide)).trans ((up2_o hV139 (by decide)).trans ((ajV133 35 k rfl).trans rfl))))
          have rw149 : RoV 37 bq V V143 := (fun k hk => ((up2_o hV143 (by decide)).trans ((up2_o hV139 (by decide)).trans ((ajV133 37 k rfl).trans rfl))))
          have rw150 : RoL 36 20 bq L L := (fun k hk => rfl)
          have rw151 : RoL 38 20 bq L L := (fun k hk => rfl)
          exact W.vret hx hb hr (fun t ht hW => ⟨⟨(V143, L), rfl, ⟨hMV143, agV143, alL, (Imp.mk (fun hp => have hp : (V143 0 8).toInt = 0 := hp; (show (V143 0 48).toInt - (V 0 48).toInt ≤ 2 * ((V143 0 7).toInt - (V 0 7).toInt) from by omega))), (show (V143 0 48).toInt ≤ 8048 - 6 * (V 0 50).toInt from by omega), (show (V143 0 50).toInt = (V 0 50).toInt from by (first | exact om_688aeadf4b2f hz138 hz142 pq147 | omega)), (show (V 0 48).toInt ≤ (V143 0 48).toInt from by (first | exact om_abdc88b0c8fc pq145 | omega)), (Or.inr ⟨(show 1 ≤ (V143 0 8).toInt from by (first | exact om_e3c391a03e81 t131 pq146 | omega)), (fun k => by rw [show (V143 0 8).toInt = (V133 0 8).toInt from by omega]; exact hb137 k)⟩), rw148, rw149, rw150, rw151⟩, by rw [ht]; exact hP, va_K.moved hW.alike hK, hD⟩, hS.F ht⟩) hS.2.2 dX12_part_82
        · skip
          have f152 : ((V133 0 8)).toInt = 0 := b_eq rfl (by decide) c140
          exfalso; (first | exact om_09885ab343b9 t131 f152 | omega)
