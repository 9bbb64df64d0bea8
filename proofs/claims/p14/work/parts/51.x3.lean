section GEV
variable {p : Program} {l : Launch} {e : Env} {R : Room} {s : State} {m : MethodId} {args : Array Value} {below : List Frame} {meth : Method} {c : Code} {H : Heap} {locs : List Loc} {cells slots : Nat} {Q : State → Prop}
variable {pc : Nat} {ls : Array Slot} {st0 rest : List Value} {D : va_G} {A : Nat → Prop} {tys : List (ClassId × FieldType)} {ws : va_W}
theorem gE_void {S : Type} {post : S → Prop} {mc ms : Nat} {av : Array Value} (hr : va_Run p l e R s m args below meth c H locs cells slots mc ms (F0 m pc ls st0) rest (va_Qv post (fun _ t => gq D (va_A [] H.size) [] [] t) (va_A [] H.size) av) (va_A [] H.size))
    (hP : va_P D vwCl ws H) (hD : va_D A ws) (hK : va_K D vwCl tys s) (hS : va_S A s.heap H locs) (hA : ∀ q, s.heap.size ≤ q → A q)
    (kk : ∀ (u : S) (H1 : Heap) (locs1 : List Loc), post u → va_P D vwCl ws H1 → va_D A ws → va_K D vwCl tys s → va_S A s.heap H1 locs1 → W p l e R s m args below meth c H1 locs1 (cells + mc) (slots + ms) Q (F0 m (pc + 3) ls rest)) : W p l e R s m args below meth c H locs cells slots Q (F0 m pc ls st0) := by
  have hF : ∀ q, va_A [] H.size q → A q := fun q z => z.elim (fun ⟨_, _, w⟩ => by simp at w) (fun w => hA q (Nat.le_trans hS.1 w))
  refine va_callv hr hS (fun q _ h => hF q h) hF (fun u t H1 locs ht hvm hw hB hz1 hk1 hS => ?_)
  exact kk u H1 locs hw (gE_keep hP hk1) hD hK hS
end GEV

theorem w1295 : Cond.code yJ7_rangeCheck_23922 cJ7_rangeCheck_23922 3 none ∈ GW := gw_k tk9_5 180 (rfl) rfl
theorem w1293 : Cond.methodLink RJ7 13 yJ7_rangeCheck_23922 ∈ GW := gw_k tk9_5 178 (by decide +kernel) rfl
theorem w165 : Cond.initialized RJ7 ∈ GW := gw_k tk9_1 10 (by decide +kernel) rfl
theorem w1294 : Cond.static yJ7_rangeCheck_23922 ∈ GW := gw_k tk9_5 179 (by decide +kernel) rfl
theorem hdS_yJ7_rangeCheck_23922 : yJ7_rangeCheck_23922.cls ≠ "java/lang/invoke/MethodHandle" ∧ yJ7_rangeCheck_23922.cls ≠ "java/lang/invoke/VarHandle" ∧ (parseMethodDescriptor yJ7_rangeCheck_23922.desc).map (fun d => d.parameters.length) = some 3 := by decide +kernel
theorem w1089 : Cond.constant RJ6 265 1431655765 ∈ GW := gw_k tk9_4 214 (by decide +kernel) rfl
theorem w1090 : Cond.constant RJ6 266 858993459 ∈ GW := gw_k tk9_4 215 (by decide +kernel) rfl
theorem w1091 : Cond.constant RJ6 267 252645135 ∈ GW := gw_k tk9_4 216 (by decide +kernel) rfl
theorem dk9_dJ7_fill_53178_0_0 : dOk cJ7_fill_53178 [(0, .iconst 0, 1), (1, .istore_n 2, 1), (2, .aload_n 0, 1), (3, .arraylength, 1), (4, .istore_n 3, 1), (5, .iload_n 2, 1), (6, .iload_n 3, 1), (7, .if_icmp .ge 13, 3), (20, .return_, 1), (10, .aload_n 0, 1), (11, .iload_n 2, 1), (12, .iload_n 1, 1), (13, .iastore, 1), (14, .iinc 2 1, 3), (17, .goto (-12), 3)] = true := by decide +kernel
theorem dJ7_fill_53178_0 : decode cJ7_fill_53178 0 = .ok (.iconst 0, 1) := dr9 dk9_dJ7_fill_53178_0_0 0 (0, .iconst 0, 1) rfl
theorem dJ7_fill_53178_1 : decode cJ7_fill_53178 1 = .ok (.istore_n 2, 1) := dr9 dk9_dJ7_fill_53178_0_0 1 (1, .istore_n 2, 1) rfl
theorem dJ7_fill_53178_2 : decode cJ7_fill_53178 2 = .ok (.aload_n 0, 1) := dr9 dk9_dJ7_fill_53178_0_0 2 (2, .aload_n 0, 1) rfl
theorem dJ7_fill_53178_3 : decode cJ7_fill_53178 3 = .ok (.arraylength, 1) := dr9 dk9_dJ7_fill_53178_0_0 3 (3, .arraylength, 1) rfl
theorem dJ7_fill_53178_4 : decode cJ7_fill_53178 4 = .ok (.istore_n 3, 1) := dr9 dk9_dJ7_fill_53178_0_0 4 (4, .istore_n 3, 1) rfl
theorem dJ7_fill_53178_5 : decode cJ7_fill_53178 5 = .ok (.iload_n 2, 1) := dr9 dk9_dJ7_fill_53178_0_0 5 (5, .iload_n 2, 1) rfl
theorem dJ7_fill_53178_6 : decode cJ7_fill_53178 6 = .ok (.iload_n 3, 1) := dr9 dk9_dJ7_fill_53178_0_0 6 (6, .iload_n 3, 1) rfl
theorem dJ7_fill_53178_7 : decode cJ7_fill_53178 7 = .ok (.if_icmp .ge 13, 3) := dr9 dk9_dJ7_fill_53178_0_0 7 (7, .if_icmp .ge 13, 3) rfl
theorem dJ7_fill_53178_20 : decode cJ7_fill_53178 20 = .ok (.return_, 1) := dr9 dk9_dJ7_fill_53178_0_0 8 (20, .return_, 1) rfl
theorem dJ7_fill_53178_10 : decode cJ7_fill_53178 10 = .ok (.aload_n 0, 1) := dr9 dk9_dJ7_fill_53178_0_0 9 (10, .aload_n 0, 1) rfl
theorem dJ7_fill_53178_11 : decode cJ7_fill_53178 11 = .ok (.iload_n 2, 1) := dr9 dk9_dJ7_fill_53178_0_0 10 (11, .iload_n 2, 1) rfl
theorem dJ7_fill_53178_12 : decode cJ7_fill_53178 12 = .ok (.iload_n 1, 1) := dr9 dk9_dJ7_fill_53178_0_0 11 (12, .iload_n 1, 1) rfl
theorem dJ7_fill_53178_13 : decode cJ7_fill_53178 13 = .ok (.iastore, 1) := dr9 dk9_dJ7_fill_53178_0_0 12 (13, .iastore, 1) rfl
theorem dJ7_fill_53178_14 : decode cJ7_fill_53178 14 = .ok (.iinc 2 1, 3) := dr9 dk9_dJ7_fill_53178_0_0 13 (14, .iinc 2 1, 3) rfl
theorem dJ7_fill_53178_17 : decode cJ7_fill_53178 17 = .ok (.goto (-12), 3) := dr9 dk9_dJ7_fill_53178_0_0 14 (17, .goto (-12), 3) rfl
theorem dk9_dJ7_rangeCheck_23922_0_0 : dOk cJ7_rangeCheck_23922 [(0, .iload_n 1, 1), (1, .iload_n 2, 1), (2, .if_icmp .le 44, 3), (46, .iload_n 1, 1), (47, .ifCond .ge 12, 3), (59, .iload_n 2, 1), (60, .iload_n 0, 1), (61, .if_icmp .le 12, 3), (73, .return_, 1)] = true := by decide +kernel
theorem dJ7_rangeCheck_23922_0 : decode cJ7_rangeCheck_23922 0 = .ok (.iload_n 1, 1) := dr9 dk9_dJ7_rangeCheck_23922_0_0 0 (0, .iload_n 1, 1) rfl
theorem dJ7_rangeCheck_23922_1 : decode cJ7_rangeCheck_23922 1 = .ok (.iload_n 2, 1) := dr9 dk9_dJ7_rangeCheck_23922_0_0 1 (1, .iload_n 2, 1) rfl
theorem dJ7_rangeCheck_23922_2 : decode cJ7_rangeCheck_23922 2 = .ok (.if_icmp .le 44, 3) := dr9 dk9_dJ7_rangeCheck_23922_0_0 2 (2, .if_icmp .le 44, 3) rfl
theorem dJ7_rangeCheck_23922_46 : decode cJ7_rangeCheck_23922 46 = .ok (.iload_n 1, 1) := dr9 dk9_dJ7_rangeCheck_23922_0_0 3 (46, .iload_n 1, 1) rfl
theorem dJ7_rangeCheck_23922_47 : decode cJ7_rangeCheck_23922 47 = .ok (.ifCond .ge 12, 3) := dr9 dk9_dJ7_rangeCheck_23922_0_0 4 (47, .ifCond .ge 12, 3) rfl
theorem dJ7_rangeCheck_23922_59 : decode cJ7_rangeCheck_23922 59 = .ok (.iload_n 2, 1) := dr9 dk9_dJ7_rangeCheck_23922_0_0 5 (59, .iload_n 2, 1) rfl
theorem dJ7_rangeCheck_23922_60 : decode cJ7_rangeCheck_23922 60 = .ok (.iload_n 0, 1) := dr9 dk9_dJ7_rangeCheck_23922_0_0 6 (60, .iload_n 0, 1) rfl
theorem dJ7_rangeCheck_23922_61 : decode cJ7_rangeCheck_23922 61 = .ok (.if_icmp .le 12, 3) := dr9 dk9_dJ7_rangeCheck_23922_0_0 7 (61, .if_icmp .le 12, 3) rfl
theorem dJ7_rangeCheck_23922_73 : decode cJ7_rangeCheck_23922 73 = .ok (.return_, 1) := dr9 dk9_dJ7_rangeCheck_23922_0_0 8 (73, .return_, 1) rfl
theorem dk9_dJ7_fill_fda19_0_0 : dOk cJ7_fill_fda19 [(0, .aload_n 0, 1), (1, .arraylength, 1), (2, .iload_n 1, 1), (3, .iload_n 2, 1), (4, .invokestatic 13, 3), (7, .iload_n 1, 1), (8, .istore 4, 2), (10, .iload 4, 2), (12, .iload_n 2, 1), (13, .if_icmp .ge 14, 3), (27, .return_, 1), (16, .aload_n 0, 1), (17, .iload 4, 2), (19, .iload_n 3, 1), (20, .iastore, 1), (21, .iinc 4 1, 3), (24, .goto (-14), 3)] = true := by decide +kernel
theorem dJ7_fill_fda19_0 : decode cJ7_fill_fda19 0 = .ok (.aload_n 0, 1) := dr9 dk9_dJ7_fill_fda19_0_0 0 (0, .aload_n 0, 1) rfl
theorem dJ7_fill_fda19_1 : decode cJ7_fill_fda19 1 = .ok (.arraylength, 1) := dr9 dk9_dJ7_fill_fda19_0_0 1 (1, .arraylength, 1) rfl
theorem dJ7_fill_fda19_2 : decode cJ7_fill_fda19 2 = .ok (.iload_n 1, 1) := dr9 dk9_dJ7_fill_fda19_0_0 2 (2, .iload_n 1, 1) rfl
theorem dJ7_fill_fda19_3 : decode cJ7_fill_fda19 3 = .ok (.iload_n 2, 1) := dr9 dk9_dJ7_fill_fda19_0_0 3 (3, .iload_n 2, 1) rfl
theorem dJ7_fill_fda19_4 : decode cJ7_fill_fda19 4 = .ok (.invokestatic 13, 3) := dr9 dk9_dJ7_fill_fda19_0_0 4 (4, .invokestatic 13, 3) rfl
theorem dJ7_fill_fda19_7 : decode cJ7_fill_fda19 7 = .ok (.iload_n 1, 1) := dr9 dk9_dJ7_fill_fda19_0_0 5 (7, .iload_n 1, 1) rfl
theorem dJ7_fill_fda19_8 : decode cJ7_fill_fda19 8 = .ok (.istore 4, 2) := dr9 dk9_dJ7_fill_fda19_0_0 6 (8, .istore 4, 2) rfl
theorem dJ7_fill_fda19_10 : decode cJ7_fill_fda19 10 = .ok (.iload 4, 2) := dr9 dk9_dJ7_fill_fda19_0_0 7 (10, .iload 4, 2) rfl
theorem dJ7_fill_fda19_12 : decode cJ7_fill_fda19 12 = .ok (.iload_n 2, 1) := dr9 dk9_dJ7_fill_fda19_0_0 8 (12, .iload_n 2, 1) rfl
theorem dJ7_fill_fda19_13 : decode cJ7_fill_fda19 13 = .ok (.if_icmp .ge 14, 3) := dr9 dk9_dJ7_fill_fda19_0_0 9 (13, .if_icmp .ge 14, 3) rfl
theorem dJ7_fill_fda19_27 : decode cJ7_fill_fda19 27 = .ok (.return_, 1) := dr9 dk9_dJ7_fill_fda19_0_0 10 (27, .return_, 1) rfl
theorem dJ7_fill_fda19_16 : decode cJ7_fill_fda19 16 = .ok (.aload_n 0, 1) := dr9 dk9_dJ7_fill_fda19_0_0 11 (16, .aload_n 0, 1) rfl
theorem dJ7_fill_fda19_17 : decode cJ7_fill_fda19 17 = .ok (.iload 4, 2) := dr9 dk9_dJ7_fill_fda19_0_0 12 (17, .iload 4, 2) rfl
theorem dJ7_fill_fda19_19 : decode cJ7_fill_fda19 19 = .ok (.iload_n 3, 1) := dr9 dk9_dJ7_fill_fda19_0_0 13 (19, .iload_n 3, 1) rfl
theorem dJ7_fill_fda19_20 : decode cJ7_fill_fda19 20 = .ok (.iastore, 1) := dr9 dk9_dJ7_fill_fda19_0_0 14 (20, .iastore, 1) rfl
theorem dJ7_fill_fda19_21 : decode cJ7_fill_fda19 21 = .ok (.iinc 4 1, 3) := dr9 dk9_dJ7_fill_fda19_0_0 15 (21, .iinc 4 1, 3) rfl
theorem dJ7_fill_fda19_24 : decode cJ7_fill_fda19 24 = .ok (.goto (-14), 3) := dr9 dk9_dJ7_fill_fda19_0_0 16 (24, .goto (-14), 3) rfl
theorem dk9_dJ6_bitCount_0f7a4_0_0 : dOk cJ6_bitCount_0f7a4 [(0, .iload_n 0, 1), (1, .iload_n 0, 1), (2, .iconst 1, 1), (3, .iushr, 1), (4, .ldc_w 265, 3), (7, .iand, 1), (8, .isub, 1), (9, .istore_n 0, 1), (10, .iload_n 0, 1), (11, .ldc_w 266, 3), (14, .iand, 1), (15, .iload_n 0, 1), (16, .iconst 2, 1), (17, .iushr, 1), (18, .ldc_w 266, 3), (21, .iand, 1), (22, .iadd, 1), (23, .istore_n 0, 1), (24, .iload_n 0, 1), (25, .iload_n 0, 1), (26, .iconst 4, 1), (27, .iushr, 1), (28, .iadd, 1), (29, .ldc_w 267, 3)] = true ∧ dOk cJ6_bitCount_0f7a4 [(32, .iand, 1), (33, .istore_n 0, 1), (34, .iload_n 0, 1), (35, .iload_n 0, 1), (36, .bipush 8, 2), (38, .iushr, 1), (39, .iadd, 1), (40, .istore_n 0, 1), (41, .iload_n 0, 1), (42, .iload_n 0, 1), (43, .bipush 16, 2), (45, .iushr, 1), (46, .iadd, 1), (47, .istore_n 0, 1), (48, .iload_n 0, 1), (49, .bipush 63, 2), (51, .iand, 1), (52, .ireturn, 1)] = true := by decide +kernel
theorem dJ6_bitCount_0f7a4_0 : decode cJ6_bitCount_0f7a4 0 = .ok (.iload_n 0, 1) := dr9 dk9_dJ6_bitCount_0f7a4_0_0.1 0 (0, .iload_n 0, 1) rfl
theorem dJ6_bitCount_0f7a4_1 : decode cJ6_bitCount_0f7a4 1 = .ok (.iload_n 0, 1) := dr9 dk9_dJ6_bitCount_0f7a4_0_0.1 1 (1, .iload_n 0, 1) rfl
theorem dJ6_bitCount_0f7a4_2 : decode cJ6_bitCount_0f7a4 2 = .ok (.iconst 1, 1) := dr9 dk9_dJ6_bitCount_0f7a4_0_0.1 2 (2, .iconst 1, 1) rfl
theorem dJ6_bitCount_0f7a4_3 : decode cJ6_bitCount_0f7a4 3 = .ok (.iushr, 1) := dr9 dk9_dJ6_bitCount_0f7a4_0_0.1 3 (3, .iushr, 1) rfl
theorem dJ6_bitCount_0f7a4_4 : decode cJ6_bitCount_0f7a4 4 = .ok (.ldc_w 265, 3) := dr9 dk9_dJ6_bitCount_0f7a4_0_0.1 4 (4, .ldc_w 265, 3) rfl
theorem dJ6_bitCount_0f7a4_7 : decode cJ6_bitCount_0f7a4 7 = .ok (.iand, 1) := dr9 dk9_dJ6_bitCount_0f7a4_0_0.1 5 (7, .iand, 1) rfl
theorem dJ6_bitCount_0f7a4_8 : decode cJ6_bitCount_0f7a4 8 = .ok (.isub, 1) := dr9 dk9_dJ6_bitCount_0f7a4_0_0.1 6 (8, .isub, 1) rfl
theorem dJ6_bitCount_0f7a4_9 : decode cJ6_bitCount_0f7a4 9 = .ok (.istore_n 0, 1) := dr9 dk9_dJ6_bitCount_0f7a4_0_0.1 7 (9, .istore_n 0, 1) rfl
theorem dJ6_bitCount_0f7a4_10 : decode cJ6_bitCount_0f7a4 10 = .ok (.iload_n 0, 1) := dr9 dk9_dJ6_bitCount_0f7a4_0_0.1 8 (10, .iload_n 0, 1) rfl
theorem dJ6_bitCount_0f7a4_11 : decode cJ6_bitCount_0f7a4 11 = .ok (.ldc_w 266, 3) := dr9 dk9_dJ6_bitCount_0f7a4_0_0.1 9 (11, .ldc_w 266, 3) rfl
theorem dJ6_bitCount_0f7a4_14 : decode cJ6_bitCount_0f7a4 14 = .ok (.iand, 1) := dr9 dk9_dJ6_bitCount_0f7a4_0_0.1 10 (14, .iand, 1) rfl
theorem dJ6_bitCount_0f7a4_15 : decode cJ6_bitCount_0f7a4 15 = .ok (.iload_n 0, 1) := dr9 dk9_dJ6_bitCount_0f7a4_0_0.1 11 (15, .iload_n 0, 1) rfl
theorem dJ6_bitCount_0f7a4_16 : decode cJ6_bitCount_0f7a4 16 = .ok (.iconst 2, 1) := dr9 dk9_dJ6_bitCount_0f7a4_0_0.1 12 (16, .iconst 2, 1) rfl
theorem dJ6_bitCount_0f7a4_17 : decode cJ6_bitCount_0f7a4 17 = .ok (.iushr, 1) := dr9 dk9_dJ6_bitCount_0f7a4_0_0.1 13 (17, .iushr, 1) rfl
theorem dJ6_bitCount_0f7a4_18 : decode cJ6_bitCount_0f7a4 18 = .ok (.ldc_w 266, 3) := dr9 dk9_dJ6_bitCount_0f7a4_0_0.1 14 (18, .ldc_w 266, 3) rfl
theorem dJ6_bitCount_0f7a4_21 : decode cJ6_bitCount_0f7a4 21 = .ok (.iand, 1) := dr9 dk9_dJ6_bitCount_0f7a4_0_0.1 15 (21, .iand, 1) rfl
theorem dJ6_bitCount_0f7a4_22 : decode cJ6_bitCount_0f7a4 22 = .ok (.iadd, 1) := dr9 dk9_dJ6_bitCount_0f7a4_0_0.1 16 (22, .iadd, 1) rfl
theorem dJ6_bitCount_0f7a4_23 : decode cJ6_bitCount_0f7a4 23 = .ok (.istore_n 0, 1) := dr9 dk9_dJ6_bitCount_0f7a4_0_0.1 17 (23, .istore_n 0, 1) rfl
theorem dJ6_bitCount_0f7a4_24 : decode cJ6_bitCount_0f7a4 24 = .ok (.iload_n 0, 1) := dr9 dk9_dJ6_bitCount_0f7a4_0_0.1 18 (24, .iload_n 0, 1) rfl
theorem dJ6_bitCount_0f7a4_25 : decode cJ6_bitCount_0f7a4 25 = .ok (.iload_n 0, 1) := dr9 dk9_dJ6_bitCount_0f7a4_0_0.1 19 (25, .iload_n 0, 1) rfl
theorem dJ6_bitCount_0f7a4_26 : decode cJ6_bitCount_0f7a4 26 = .ok (.iconst 4, 1) := dr9 dk9_dJ6_bitCount_0f7a4_0_0.1 20 (26, .iconst 4, 1) rfl
theorem dJ6_bitCount_0f7a4_27 : decode cJ6_bitCount_0f7a4 27 = .ok (.iushr, 1) := dr9 dk9_dJ6_bitCount_0f7a4_0_0.1 21 (27, .iushr, 1) rfl
theorem dJ6_bitCount_0f7a4_28 : decode cJ6_bitCount_0f7a4 28 = .ok (.iadd, 1) := dr9 dk9_dJ6_bitCount_0f7a4_0_0.1 22 (28, .iadd, 1) rfl
theorem dJ6_bitCount_0f7a4_29 : decode cJ6_bitCount_0f7a4 29 = .ok (.ldc_w 267, 3) := dr9 dk9_dJ6_bitCount_0f7a4_0_0.1 23 (29, .ldc_w 267, 3) rfl
theorem dJ6_bitCount_0f7a4_32 : decode cJ6_bitCount_0f7a4 32 = .ok (.iand, 1) := dr9 dk9_dJ6_bitCount_0f7a4_0_0.2 0 (32, .iand, 1) rfl
theorem dJ6_bitCount_0f7a4_33 : decode cJ6_bitCount_0f7a4 33 = .ok (.istore_n 0, 1) := dr9 dk9_dJ6_bitCount_0f7a4_0_0.2 1 (33, .istore_n 0, 1) rfl
theorem dJ6_bitCount_0f7a4_34 : decode cJ6_bitCount_0f7a4 34 = .ok (.iload_n 0, 1) := dr9 dk9_dJ6_bitCount_0f7a4_0_0.2 2 (34, .iload_n 0, 1) rfl
theorem dJ6_bitCount_0f7a4_35 : decode cJ6_bitCount_0f7a4 35 = .ok (.iload_n 0, 1) := dr9 dk9_dJ6_bitCount_0f7a4_0_0.2 3 (35, .iload_n 0, 1) rfl
theorem dJ6_bitCount_0f7a4_36 : decode cJ6_bitCount_0f7a4 36 = .ok (.bipush 8, 2) := dr9 dk9_dJ6_bitCount_0f7a4_0_0.2 4 (36, .bipush 8, 2) rfl
theorem dJ6_bitCount_0f7a4_38 : decode cJ6_bitCount_0f7a4 38 = .ok (.iushr, 1) := dr9 dk9_dJ6_bitCount_0f7a4_0_0.2 5 (38, .iushr, 1) rfl
theorem dJ6_bitCount_0f7a4_39 : decode cJ6_bitCount_0f7a4 39 = .ok (.iadd, 1) := dr9 dk9_dJ6_bitCount_0f7a4_0_0.2 6 (39, .iadd, 1) rfl
theorem dJ6_bitCount_0f7a4_40 : decode cJ6_bitCount_0f7a4 40 = .ok (.istore_n 0, 1) := dr9 dk9_dJ6_bitCount_0f7a4_0_0.2 7 (40, .istore_n 0, 1) rfl
theorem dJ6_bitCount_0f7a4_41 : decode cJ6_bitCount_0f7a4 41 = .ok (.iload_n 0, 1) := dr9 dk9_dJ6_bitCount_0f7a4_0_0.2 8 (41, .iload_n 0, 1) rfl
theorem dJ6_bitCount_0f7a4_42 : decode cJ6_bitCount_0f7a4 42 = .ok (.iload_n 0, 1) := dr9 dk9_dJ6_bitCount_0f7a4_0_0.2 9 (42, .iload_n 0, 1) rfl
theorem dJ6_bitCount_0f7a4_43 : decode cJ6_bitCount_0f7a4 43 = .ok (.bipush 16, 2) := dr9 dk9_dJ6_bitCount_0f7a4_0_0.2 10 (43, .bipush 16, 2) rfl
theorem dJ6_bitCount_0f7a4_45 : decode cJ6_bitCount_0f7a4 45 = .ok (.iushr, 1) := dr9 dk9_dJ6_bitCount_0f7a4_0_0.2 11 (45, .iushr, 1) rfl
theorem dJ6_bitCount_0f7a4_46 : decode cJ6_bitCount_0f7a4 46 = .ok (.iadd, 1) := dr9 dk9_dJ6_bitCount_0f7a4_0_0.2 12 (46, .iadd, 1) rfl
theorem dJ6_bitCount_0f7a4_47 : decode cJ6_bitCount_0f7a4 47 = .ok (.istore_n 0, 1) := dr9 dk9_dJ6_bitCount_0f7a4_0_0.2 13 (47, .istore_n 0, 1) rfl
theorem dJ6_bitCount_0f7a4_48 : decode cJ6_bitCount_0f7a4 48 = .ok (.iload_n 0, 1) := dr9 dk9_dJ6_bitCount_0f7a4_0_0.2 14 (48, .iload_n 0, 1) rfl
theorem dJ6_bitCount_0f7a4_49 : decode cJ6_bitCount_0f7a4 49 = .ok (.bipush 63, 2) := dr9 dk9_dJ6_bitCount_0f7a4_0_0.2 15 (49, .bipush 63, 2) rfl
theorem dJ6_bitCount_0f7a4_51 : decode cJ6_bitCount_0f7a4 51 = .ok (.iand, 1) := dr9 dk9_dJ6_bitCount_0f7a4_0_0.2 16 (51, .iand, 1) rfl
theorem dJ6_bitCount_0f7a4_52 : decode cJ6_bitCount_0f7a4 52 = .ok (.ireturn, 1) := dr9 dk9_dJ6_bitCount_0f7a4_0_0.2 17 (52, .ireturn, 1) rfl
abbrev r_x_fillPresent : Room := { frames := 0, cells := 0, slots := 0, locals := 0 }
abbrev q_x_fillPresent (D : va_G) (ks : KS) (ad : Nat → Nat) (kk : Nat → ClassId) (V : Vf) (L : Lf) (Z : XZ) (p1 : Int32) (A : Nat → Prop) : Array Value → State → Outcome → State → Prop := va_Qv (fun (u : Vf × Lf) => rgd bX u.1 ∧ agr [] [25] V u.1 ∧ u.2 = L ∧ ((∀ q : Nat, (q : Int) < 960 → u.1 25 (q) = p1)) ∧ ((∀ q : Nat, ¬ (0 ≤ q ∧ q < 960) → u.1 25 q = V 25 q))) (fun u t => gq D A (xw ad kk u.1 u.2 Z) (xty kk Z) t) A
set_option maxHeartbeats 4000000 in
set_option maxRecDepth 100000 in
theorem x_fillPresent (l : Launch) (D : va_G) (ks : KS) (sz : Nat) (ad : Nat → Nat) (kk : Nat → ClassId) (V : Vf) (L : Lf) (Z : XZ) (p1 : Int32) (hMV : rgd bX V) (rg_p1 : (-1) ≤ p1.toInt ∧ p1.toInt ≤ (-1))  : Met l yJ7_fill_53178 (Cond.code yJ7_fill_53178 cJ7_fill_53178 4 none :: GW) r_x_fillPresent (va_Pc [.ref (ad 22), .int p1] (gp D ks (xw ad kk V L Z) (xty kk Z) sz)) (q_x_fillPresent D ks ad kk V L Z p1 (va_A (xw ad kk V L Z) sz)) 0 0 (va_A (xw ad kk V L Z) sz) := by
  refine g_met (q_x_fillPresent D ks ad kk V L Z p1) (by decide) (Nat.le_of_ble_eq_true rfl) ?_
  intro p e s m below meth c A ls H locs hx hb hr hml hown hg hlocks hin hnw hgk hP hK hD hS hA hl
  have hown : s.vm.findClass RJ7 = some m.cls := hown
  have hl : lv_has ls 4 [(0, .ref (ad 22)), (1, .int p1)] := hl
  have hP : va_P D vwCl (xw ad kk V L Z) H := hP
  have hD : va_D A (xw ad kk V L Z) := hD
  have hK : va_K D vwCl (xty kk Z) s := hK
  have agV : agr [] [25] V V := agr.rf
  refine lv_iconst (v := 0) hx hb dJ7_fill_53178_0 (by decide) ?_
  refine lv_istore_n (lv' := [(2, .int 0), (0, .ref (ad 22)), (1, .int p1)]) hx hb dJ7_fill_53178_1 rfl hl (by decide) rfl (fun ls hl => ?_)
  refine lv_aload_n hx hb dJ7_fill_53178_2 rfl (lv_at hl 1 rfl) ?_
  refine va_alen (D := D) (v := 960) hx hb hK hP 22 15 rfl rfl rfl dJ7_fill_53178_3 ?_
  refine lv_istore_n (lv' := [(3, .int 960), (2, .int 0), (0, .ref (ad 22)), (1, .int p1)]) hx hb dJ7_fill_53178_4 rfl hl (by decide) rfl (fun ls hl => ?_)
  have lp3 : ∀ (fulp3 : Nat) (y1 : Int32) (V2 : Vf) (H : Heap) (locs : List Loc) (ls : Array Slot), 0 ≤ y1.toInt ∧ y1.toInt ≤ 960 → y1.toInt ≤ 960 → (∀ q : Nat, 0 ≤ q → (q : Int) < y1.toInt → V2 25 (q) = p1) → (∀ q : Nat, ¬ (0 ≤ q ∧ q < 960) → V2 25 q = V 25 q) → 960 - y1.toInt < (fulp3 : Int) → agr [] [25] V V2 → rgd bX V2 → va_P D vwCl (xw ad kk V2 L Z) H → va_D A (xw ad kk V2 L Z) → va_S A s.heap H locs → lv_has ls 4 [(3, .int 960), (2, .int y1), (0, .ref (ad 22)), (1, .int p1)] → W p l e r_x_fillPresent s m ([.ref (ad 22), .int p1] : List Value).toArray below meth c H locs 0 0 (MQ below (q_x_fillPresent D ks ad kk V L Z p1 A) ([.ref (ad 22), .int p1] : List Value).toArray s 0 0 A) (F0 m 5 ls []) := by
    intro fulp3
    induction fulp3 with
    | zero =>
      intro y1 V2 H locs ls klp3_0 xlp3_0 xlp3_1 xlp3_2 hn ajV2 hMV2 hP hD hS hl
      exfalso; omega
    | succ fulp3 ihlp3 =>
      intro y1 V2 H locs ls klp3_0 xlp3_0 xlp3_1 xlp3_2 hn ajV2 hMV2 hP hD hS hl
      have agV2 : agr [] [25] V V2 := agV.tr ajV2 (by decide) (by decide)
      refine lv_iload_n hx hb dJ7_fill_53178_5 rfl (lv_at hl 1 rfl) ?_
      refine lv_iload_n hx hb dJ7_fill_53178_6 rfl (lv_at hl 0 rfl) ?_
      refine lv_icmp_ge (tgt := 20) hx hb dJ7_fill_53178_7 (by decide) (fun c4 => ?_) (fun c4 => ?_)
      · skip
        have f5 : 960 ≤ y1.toInt := b_le (by decide) rfl c4
        exact W.vret hx hb hr (fun t ht hW => ⟨⟨(V2, L), rfl, ⟨hMV2, agV2, rfl, (fun q hq => xlp3_1 q (by omega) (by omega)), xlp3_2⟩, by rw [ht]; exact hP, va_K.moved hW.alike hK, hD⟩, hS.F ht⟩) hS.2.2 dJ7_fill_53178_20
      · skip
        have f6 : y1.toInt < 960 := b_nle (by decide) rfl c4
        have k9 := i_clamp (x := y1) rfl (by omega)
        refine lv_aload_n hx hb dJ7_fill_53178_10 rfl (lv_at hl 2 rfl) ?_
        refine lv_iload_n hx hb dJ7_fill_53178_11 rfl (lv_at hl 1 rfl) ?_
        refine lv_iload_n hx hb dJ7_fill_53178_12 rfl (lv_at hl 3 rfl) ?_
        refine va_iast (D := D) (i := y1) (x := p1) hx hb hK hP hD hS 22 15 rfl rfl (i_in (a := y1.toInt) rfl (by omega)) dJ7_fill_53178_13 (fun H locs hP hD hS => ?_)
        obtain ⟨V7, hV7⟩ : ∃ z, z = up2 V2 25 (Int32.toNatClampNeg y1) p1 := ⟨_, rfl⟩
        have ew8 : (xw ad kk V2 L Z).set 22 ((ad 22), .inl ((kk 22), 960, .inl (upd (V2 25) (Int32.toNatClampNeg y1) p1))) = xw ad kk V7 L Z := by rw [hV7]; exact xw_ss (by decide) rfl (xb_si (by decide))
        have hP : va_P D vwCl (xw ad kk V7 L Z) H := by rw [← ew8]; exact hP
        have hD : va_D A (xw ad kk V7 L Z) := by rw [← ew8]; exact hD
        have hMV7 : rgd bX V7 := hMV2.put hV7 (show (-1) ≤ p1.toInt ∧ p1.toInt ≤ 299 from by omega)
        have agV7 : agr [] [25] V V7 := agV2.up hV7 rfl
        obtain ⟨z9, ez9⟩ : ∃ y : Int32, y = y1 + 1 := ⟨_, rfl⟩
        have hz9 : z9.toInt = y1.toInt + 1 := i_add ez9 rfl (by decide) (by omega)
        refine lv_iinc (v := z9) (lv' := [(2, .int z9), (3, .int 960), (0, .ref (ad 22)), (1, .int p1)]) hx hb dJ7_fill_53178_14 hl (k := 1) rfl (by rw [ez9]; rfl) (by decide) rfl (fun ls hl => ?_)
        refine lv_goto (tgt := 5) hx hb dJ7_fill_53178_17 (by decide) ?_
        have r10 : Int32.toInt 960 = 960 := by decide
        exact ihlp3 z9 V7 H locs ls (by omega) (show z9.toInt ≤ 960 from by omega) (fun q h1 h2 => by rcases Decidable.em ((q) = (Int32.toNatClampNeg y1)) with h9 | h9; (rw [h9]; exact up2_s hV7); (rw [up2_k hV7 h9]; exact xlp3_1 q h1 (by omega))) (fun q h1 => (up2_k hV7 (fun h9 => h1 (by omega))).trans (xlp3_2 q h1)) (by omega) (agr.up (agr.tr agr.rf ajV2 (by decide) (by decide)) hV7 rfl) hMV7 hP hD hS (lv_sub hl [1, 0, 2, 3] rfl)
  have r11 : Int32.toInt 960 = 960 := by decide
  have r12 : Int32.toInt 0 = 0 := by decide
  exact lp3 ((960 - (Int32.toInt 0) + 1 : Int).toNat) 0 V H locs ls (by decide) (show (Int32.toInt 0) ≤ 960 from by omega) (fun q h1 h2 => absurd h2 (by omega)) (fun q h1 => rfl) (by omega) agr.rf hMV hP hD hS (lv_sub hl [0, 1, 2, 3] rfl)
abbrev r_x_fillOnPath : Room := { frames := 0, cells := 0, slots := 0, locals := 0 }
abbrev q_x_fillOnPath (D : va_G) (ks : KS) (ad : Nat → Nat) (kk : Nat → ClassId) (V : Vf) (L : Lf) (Z : XZ) (p1 : Int32) (A : Nat → Prop) : Array Value → State → Outcome → State → Prop := va_Qv (fun (u : Vf × Lf) => rgd bX u.1 ∧ agr [] [20] V u.1 ∧ u.2 = L ∧ ((∀ q : Nat, (q : Int) < 24 → u.1 20 (q) = p1)) ∧ ((∀ q : Nat, ¬ (0 ≤ q ∧ q < 24) → u.1 20 q = V 20 q))) (fun u t => gq D A (xw ad kk u.1 u.2 Z) (xty kk Z) t) A
set_option maxHeartbeats 4000000 in
set_option maxRecDepth 100000 in
theorem x_fillOnPath (l : Launch) (D : va_G) (ks : KS) (sz : Nat) (ad : Nat → Nat) (kk : Nat → ClassId) (V : Vf) (L : Lf) (Z : XZ) (p1 : Int32) (hMV : rgd bX V) (rg_p1 : (-1) ≤ p1.toInt ∧ p1.toInt ≤ (-1))  : Met l yJ7_fill_53178 (Cond.code yJ7_fill_53178 cJ7_fill_53178 4 none :: GW) r_x_fillOnPath (va_Pc [.ref (ad 17), .int p1] (gp D ks (xw ad kk V L Z) (xty kk Z) sz)) (q_x_fillOnPath D ks ad kk V L Z p1 (va_A (xw ad kk V L Z) sz)) 0 0 (va_A (xw ad kk V L Z) sz) := by
  refine g_met (q_x_fillOnPath D ks ad kk V L Z p1) (by decide) (Nat.le_of_ble_eq_true rfl) ?_
  intro p e s m below meth c A ls H locs hx hb hr hml hown hg hlocks hin hnw hgk hP hK hD hS hA hl
  have hown : s.vm.findClass RJ7 = some m.cls := hown
  have hl : lv_has ls 4 [(0, .ref (ad 17)), (1, .int p1)] := hl
  have hP : va_P D vwCl (xw ad kk V L Z) H := hP
  have hD : va_D A (xw ad kk V L Z) := hD
  have hK : va_K D vwCl (xty kk Z) s := hK
  have agV : agr [] [20] V V := agr.rf
  refine lv_iconst (v := 0) hx hb dJ7_fill_53178_0 (by decide) ?_
  refine lv_istore_n (lv' := [(2, .int 0), (0, .ref (ad 17)), (1, .int p1)]) hx hb dJ7_fill_53178_1 rfl hl (by decide) rfl (fun ls hl => ?_)
  refine lv_aload_n hx hb dJ7_fill_53178_2 rfl (lv_at hl 1 rfl) ?_
  refine va_alen (D := D) (v := 24) hx hb hK hP 17 10 rfl rfl rfl dJ7_fill_53178_3 ?_
  refine lv_istore_n (lv' := [(3, .int 24), (2, .int 0), (0, .ref (ad 17)), (1, .int p1)]) hx hb dJ7_fill_53178_4 rfl hl (by decide) rfl (fun ls hl => ?_)
  have lp3 : ∀ (fulp3 : Nat) (y1 : Int32) (V2 : Vf) (H : Heap) (locs : List Loc) (ls : Array Slot), 0 ≤ y1.toInt ∧ y1.toInt ≤ 24 → y1.toInt ≤ 24 → (∀ q : Nat, 0 ≤ q → (q : Int) < y1.toInt → V2 20 (q) = p1) → (∀ q : Nat, ¬ (0 ≤ q ∧ q < 24) → V2 20 q = V 20 q) → 24 - y1.toInt < (fulp3 : Int) → agr [] [20] V V2 → rgd bX V2 → va_P D vwCl (xw ad kk V2 L Z) H → va_D A (xw ad kk V2 L Z) → va_S A s.heap H locs → lv_has ls 4 [(3, .int 24), (2, .int y1), (0, .ref (ad 17)), (1, .int p1)] → W p l e r_x_fillOnPath s m ([.ref (ad 17), .int p1] : List Value).toArray below meth c H locs 0 0 (MQ below (q_x_fillOnPath D ks ad kk V L Z p1 A) ([.ref (ad 17), .int p1] : List Value).toArray s 0 0 A) (F0 m 5 ls []) := by
    intro fulp3
    induction fulp3 with
    | zero =>
      intro y1 V2 H locs ls klp3_0 xlp3_0 xlp3_1 xlp3_2 hn ajV2 hMV2 hP hD hS hl
      exfalso; omega
    | succ fulp3 ihlp3 =>
      intro y1 V2 H locs ls klp3_0 xlp3_0 xlp3_1 xlp3_2 hn ajV2 hMV2 hP hD hS hl
      have agV2 : agr [] [20] V V2 := agV.tr ajV2 (by decide) (by decide)
      refine lv_iload_n hx hb dJ7_fill_53178_5 rfl (lv_at hl 1 rfl) ?_
      refine lv_iload_n hx hb dJ7_fill_53178_6 rfl (lv_at hl 0 rfl) ?_
      refine lv_icmp_ge (tgt := 20) hx hb dJ7_fill_53178_7 (by decide) (fun c4 => ?_) (fun c4 => ?_)
      · skip
        have f5 : 24 ≤ y1.toInt := b_le (by decide) rfl c4
        exact W.vret hx hb hr (fun t ht hW => ⟨⟨(V2, L), rfl, ⟨hMV2, agV2, rfl, (fun q hq => xlp3_1 q (by omega) (by omega)), xlp3_2⟩, by rw [ht]; exact hP, va_K.moved hW.alike hK, hD⟩, hS.F ht⟩) hS.2.2 dJ7_fill_53178_20
      · skip
        have f6 : y1.toInt < 24 := b_nle (by decide) rfl c4
        have k9 := i_clamp (x := y1) rfl (by omega)
        refine lv_aload_n hx hb dJ7_fill_53178_10 rfl (lv_at hl 2 rfl) ?_
        refine lv_iload_n hx hb dJ7_fill_53178_11 rfl (lv_at hl 1 rfl) ?_
        refine lv_iload_n hx hb dJ7_fill_53178_12 rfl (lv_at hl 3 rfl) ?_
        refine va_iast (D := D) (i := y1) (x := p1) hx hb hK hP hD hS 17 10 rfl rfl (i_in (a := y1.toInt) rfl (by omega)) dJ7_fill_53178_13 (fun H locs hP hD hS => ?_)
        obtain ⟨V7, hV7⟩ : ∃ z, z = up2 V2 20 (Int32.toNatClampNeg y1) p1 := ⟨_, rfl⟩
        have ew8 : (xw ad kk V2 L Z).set 17 ((ad 17), .inl ((kk 17), 24, .inl (upd (V2 20) (Int32.toNatClampNeg y1) p1))) = xw ad kk V7 L Z := by rw [hV7]; exact xw_ss (by decide) rfl (xb_si (by decide))
        have hP : va_P D vwCl (xw ad kk V7 L Z) H := by rw [← ew8]; exact hP
        have hD : va_D A (xw ad kk V7 L Z) := by rw [← ew8]; exact hD
        have hMV7 : rgd bX V7 := hMV2.put hV7 (show (-2) ≤ p1.toInt ∧ p1.toInt ≤ 23 from by omega)
        have agV7 : agr [] [20] V V7 := agV2.up hV7 rfl
        obtain ⟨z9, ez9⟩ : ∃ y : Int32, y = y1 + 1 := ⟨_, rfl⟩
        have hz9 : z9.toInt = y1.toInt + 1 := i_add ez9 rfl (by decide) (by omega)
        refine lv_iinc (v := z9) (lv' := [(2, .int z9), (3, .int 24), (0, .ref (ad 17)), (1, .int p1)]) hx hb dJ7_fill_53178_14 hl (k := 1) rfl (by rw [ez9]; rfl) (by decide) rfl (fun ls hl => ?_)
        refine lv_goto (tgt := 5) hx hb dJ7_fill_53178_17 (by decide) ?_
        have r10 : Int32.toInt 24 = 24 := by decide
        exact ihlp3 z9 V7 H locs ls (by omega) (show z9.toInt ≤ 24 from by omega) (fun q h1 h2 => by rcases Decidable.em ((q) = (Int32.toNatClampNeg y1)) with h9 | h9; (rw [h9]; exact up2_s hV7); (rw [up2_k hV7 h9]; exact xlp3_1 q h1 (by omega))) (fun q h1 => (up2_k hV7 (fun h9 => h1 (by omega))).trans (xlp3_2 q h1)) (by omega) (agr.up (agr.tr agr.rf ajV2 (by decide) (by decide)) hV7 rfl) hMV7 hP hD hS (lv_sub hl [1, 0, 2, 3] rfl)
  have r11 : Int32.toInt 24 = 24 := by decide
  have r12 : Int32.toInt 0 = 0 := by decide
  exact lp3 ((24 - (Int32.toInt 0) + 1 : Int).toNat) 0 V H locs ls (by decide) (show (Int32.toInt 0) ≤ 24 from by omega) (fun q h1 h2 => absurd h2 (by omega)) (fun q h1 => rfl) (by omega) agr.rf hMV hP hD hS (lv_sub hl [0, 1, 2, 3] rfl)
abbrev r_x_fillStarts : Room := { frames := 0, cells := 0, slots := 0, locals := 0 }
abbrev q_x_fillStarts (D : va_G) (ks : KS) (ad : Nat → Nat) (kk : Nat → ClassId) (V : Vf) (L : Lf) (Z : XZ) (p1 : Int32) (gi : Nat) (A : Nat → Prop) : Array Value → State → Outcome → State → Prop := va_Qv (fun (u : Vf × Lf) => rgd bX u.1 ∧ agr [] [61] V u.1 ∧ u.2 = L ∧ frX (xI gi) V u.1 ∧ ((∀ q : Nat, (q : Int) < 20 → u.1 61 (20 * gi + q) = p1)) ∧ ((∀ q : Nat, ¬ (20 * gi ≤ q ∧ q < 20 * gi + 20) → u.1 61 q = V 61 q))) (fun u t => gq D A (xw ad kk u.1 u.2 Z) (xty kk Z) t) A
set_option maxHeartbeats 4000000 in
set_option maxRecDepth 100000 in
theorem x_fillStarts (l : Launch) (D : va_G) (ks : KS) (sz : Nat) (ad : Nat → Nat) (kk : Nat → ClassId) (V : Vf) (L : Lf) (Z : XZ) (p1 : Int32) (gi : Nat) (hMV : rgd bX V) (rg_p1 : (-1) ≤ p1.toInt ∧ p1.toInt ≤ (-1)) (hgi : gi < 48)  : Met l yJ7_fill_53178 (Cond.code yJ7_fill_53178 cJ7_fill_53178 4 none :: GW) r_x_fillStarts (va_Pc [.ref (ad (264 + gi)), .int p1] (gp D ks (xw ad kk V L Z) (xty kk Z) sz)) (q_x_fillStarts D ks ad kk V L Z p1 gi (va_A (xw ad kk V L Z) sz)) 0 0 (va_A (xw ad kk V L Z) sz) := by
  refine g_met (q_x_fillStarts D ks ad kk V L Z p1 gi) (by decide) (Nat.le_of_ble_eq_true rfl) ?_
  intro p e s m below meth c A ls H locs hx hb hr hml hown hg hlocks hin hnw hgk hP hK hD hS hA hl
  have hown : s.vm.findClass RJ7 = some m.cls := hown
  have hl : lv_has ls 4 [(0, .ref (ad (264 + gi))), (1, .int p1)] := hl
  have hP : va_P D vwCl (xw ad kk V L Z) H := hP
  have hD : va_D A (xw ad kk V L Z) := hD
  have hK : va_K D vwCl (xty kk Z) s := hK
  have agV : agr [] [61] V V := agr.rf
  have fwV : frX (xI gi) V V := frX.rf
  refine lv_iconst (v := 0) hx hb dJ7_fill_53178_0 (by decide) ?_
  refine lv_istore_n (lv' := [(2, .int 0), (0, .ref (ad (264 + gi))), (1, .int p1)]) hx hb dJ7_fill_53178_1 rfl hl (by decide) rfl (fun ls hl => ?_)
  refine lv_aload_n hx hb dJ7_fill_53178_2 rfl (lv_at hl 1 rfl) ?_
  refine va_alen (D := D) (v := 20) hx hb hK hP (264 + gi) (257 + gi) (xgmethodStarts hgi) (xtmethodStarts hgi) rfl dJ7_fill_53178_3 ?_
  refine lv_istore_n (lv' := [(3, .int 20), (2, .int 0), (0, .ref (ad (264 + gi))), (1, .int p1)]) hx hb dJ7_fill_53178_4 rfl hl (by decide) rfl (fun ls hl => ?_)
  have lp3 : ∀ (fulp3 : Nat) (y1 : Int32) (V2 : Vf) (H : Heap) (locs : List Loc) (ls : Array Slot), 0 ≤ y1.toInt ∧ y1.toInt ≤ 20 → y1.toInt ≤ 20 → (∀ q : Nat, 0 ≤ q → (q : Int) < y1.toInt → V2 61 (20 * gi + q) = p1) → (∀ q : Nat, ¬ (20 * gi ≤ q ∧ q < 20 * gi + 20) → V2 61 q = V 61 q) → 20 - y1.toInt < (fulp3 : Int) → agr [] [61] V V2 → rgd bX V2 → frX (xI gi) V V2 → va_P D vwCl (xw ad kk V2 L Z) H → va_D A (xw ad kk V2 L Z) → va_S A s.heap H locs → lv_has ls 4 [(3, .int 20), (2, .int y1), (0, .ref (ad (264 + gi))), (1, .int p1)] → W p l e r_x_fillStarts s m ([.ref (ad (264 + gi)), .int p1] : List Value).toArray below meth c H locs 0 0 (MQ below (q_x_fillStarts D ks ad kk V L Z p1 gi A) ([.ref (ad (264 + gi)), .int p1] : List Value).toArray s 0 0 A) (F0 m 5 ls []) := by
    intro fulp3
    induction fulp3 with
    | zero =>
      intro y1 V2 H locs ls klp3_0 xlp3_0 xlp3_1 xlp3_2 hn ajV2 hMV2 fwV2 hP hD hS hl
      exfalso; omega
    | succ fulp3 ihlp3 =>
      intro y1 V2 H locs ls klp3_0 xlp3_0 xlp3_1 xlp3_2 hn ajV2 hMV2 fwV2 hP hD hS hl
      have agV2 : agr [] [61] V V2 := agV.tr ajV2 (by decide) (by decide)
      refine lv_iload_n hx hb dJ7_fill_53178_5 rfl (lv_at hl 1 rfl) ?_
      refine lv_iload_n hx hb dJ7_fill_53178_6 rfl (lv_at hl 0 rfl) ?_
      refine lv_icmp_ge (tgt := 20) hx hb dJ7_fill_53178_7 (by decide) (fun c4 => ?_) (fun c4 => ?_)
      · skip
        have f5 : 20 ≤ y1.toInt := b_le (by decide) rfl c4
        exact W.vret hx hb hr (fun t ht hW => ⟨⟨(V2, L), rfl, ⟨hMV2, agV2, rfl, fwV2, (fun q hq => xlp3_1 q (by omega) (by omega)), xlp3_2⟩, by rw [ht]; exact hP, va_K.moved hW.alike hK, hD⟩, hS.F ht⟩) hS.2.2 dJ7_fill_53178_20
      · skip
        have f6 : y1.toInt < 20 := b_nle (by decide) rfl c4
        have k9 := i_clamp (x := y1) rfl (by omega)
        refine lv_aload_n hx hb dJ7_fill_53178_10 rfl (lv_at hl 2 rfl) ?_
        refine lv_iload_n hx hb dJ7_fill_53178_11 rfl (lv_at hl 1 rfl) ?_
        refine lv_iload_n hx hb dJ7_fill_53178_12 rfl (lv_at hl 3 rfl) ?_
        refine va_iast (D := D) (i := y1) (x := p1) hx hb hK hP hD hS (264 + gi) (257 + gi) (xgmethodStarts hgi) (xtmethodStarts hgi) (i_in (a := y1.toInt) rfl (by omega)) dJ7_fill_53178_13 (fun H locs hP hD hS => ?_)
        have kc7 := i_clamp (x := y1) rfl (by omega)
        have kl8 : (Int32.toNatClampNeg y1) < 20 := by omega
        obtain ⟨V9, hV9⟩ : ∃ z, z = up2 V2 61 (20 * gi + (Int32.toNatClampNeg y1)) p1 := ⟨_, rfl⟩
        have ew10 : (xw ad kk V2 L Z).set (264 + gi) ((ad (264 + gi)), .inl ((kk (264 + gi)), 20, .inl (upd (fun q => if q < 20 then V2 61 (20 * gi + q) else 0) (Int32.toNatClampNeg y1) p1))) = xw ad kk V9 L Z := by rw [hV9]; exact xpmethodStarts hgi kl8
        have hP : va_P D vwCl (xw ad kk V9 L Z) H := by rw [← ew10]; exact hP
        have hD : va_D A (xw ad kk V9 L Z) := by rw [← ew10]; exact hD
        have hMV9 : rgd bX V9 := hMV2.put hV9 (show (-1) ≤ p1.toInt ∧ p1.toInt ≤ 8200 from by omega)
        have agV9 : agr [] [61] V V9 := agV2.up hV9 rfl
        have fwV9 : frX (xI gi) V V9 := frX.up fwV2 hV9 (Or.inr ⟨(by show 20 * gi ≤ (20 * gi + (Int32.toNatClampNeg y1)); omega), (by show (20 * gi + (Int32.toNatClampNeg y1)) < 20 * gi + 20; omega)⟩)
        obtain ⟨z11, ez11⟩ : ∃ y : Int32, y = y1 + 1 := ⟨_, rfl⟩
        have hz11 : z11.toInt = y1.toInt + 1 := i_add ez11 rfl (by decide) (by omega)
        refine lv_iinc (v := z11) (lv' := [(2, .int z11), (3, .int 20), (0, .ref (ad (264 + gi))), (1, .int p1)]) hx hb dJ7_fill_53178_14 hl (k := 1) rfl (by rw [ez11]; rfl) (by decide) rfl (fun ls hl => ?_)
        refine lv_goto (tgt := 5) hx hb dJ7_fill_53178_17 (by decide) ?_
        have r12 : Int32.toInt 20 = 20 := by decide
        exact ihlp3 z11 V9 H locs ls (by omega) (show z11.toInt ≤ 20 from by omega) (fun q h1 h2 => by rcases Decidable.em ((20 * gi + q) = (20 * gi + (Int32.toNatClampNeg y1))) with h9 | h9; (rw [h9]; exact up2_s hV9); (rw [up2_k hV9 h9]; exact xlp3_1 q h1 (by omega))) (fun q h1 => (up2_k hV9 (fun h9 => h1 (by omega))).trans (xlp3_2 q h1)) (by omega) (agr.up (agr.tr agr.rf ajV2 (by decide) (by decide)) hV9 rfl) hMV9 fwV9 hP hD hS (lv_sub hl [1, 0, 2, 3] rfl)
  have r13 : Int32.toInt 20 = 20 := by decide
  have r14 : Int32.toInt 0 = 0 := by decide
  exact lp3 ((20 - (Int32.toInt 0) + 1 : Int).toNat) 0 V H locs ls (by decide) (show (Int32.toInt 0) ≤ 20 from by omega) (fun q h1 h2 => absurd h2 (by omega)) (fun q h1 => rfl) (by omega) agr.rf hMV fwV hP hD hS (lv_sub hl [0, 1, 2, 3] rfl)
abbrev r_x_rangeCheck : Room := { frames := 0, cells := 0, slots := 0, locals := 0 }
abbrev q_x_rangeCheck (D : va_G) (p0 : Int32) (p1 : Int32) (p2 : Int32) (A : Nat → Prop) : Array Value → State → Outcome → State → Prop := va_Qv (fun (_ : Unit) => True) (fun _ t => gq D A [] [] t) A
set_option maxHeartbeats 4000000 in
set_option maxRecDepth 100000 in
theorem x_rangeCheck (l : Launch) (D : va_G) (ks : KS) (sz : Nat) (p0 : Int32) (p1 : Int32) (p2 : Int32) (y1 : p1.toInt ≤ p2.toInt) (y2 : 0 ≤ p1.toInt) (y3 : p2.toInt ≤ p0.toInt)  : Met l yJ7_rangeCheck_23922 (Cond.code yJ7_rangeCheck_23922 cJ7_rangeCheck_23922 3 none :: GW) r_x_rangeCheck (va_Pc [.int p0, .int p1, .int p2] (gp D ks ([]) ([]) sz)) (q_x_rangeCheck D p0 p1 p2 (va_A ([]) sz)) 0 0 (va_A ([]) sz) := by
  refine g_met (q_x_rangeCheck D p0 p1 p2) (by decide) (Nat.le_of_ble_eq_true rfl) ?_
  intro p e s m below meth c A ls H locs hx hb hr hml hown hg hlocks hin hnw hgk hP hK hD hS hA hl
  have hown : s.vm.findClass RJ7 = some m.cls := hown
  have hl : lv_has ls 3 [(0, .int p0), (1, .int p1), (2, .int p2)] := hl
  refine lv_iload_n hx hb dJ7_rangeCheck_23922_0 rfl (lv_at hl 1 rfl) ?_
  refine lv_iload_n hx hb dJ7_rangeCheck_23922_1 rfl (lv_at hl 2 rfl) ?_
  refine lv_icmp_le (tgt := 46) hx hb dJ7_rangeCheck_23922_2 (by decide) (fun c1 => ?_) (fun c1 => ?_)
  · skip
    have f2 : p1.toInt ≤ p2.toInt := b_le rfl rfl c1
    refine lv_iload_n hx hb dJ7_rangeCheck_23922_46 rfl (lv_at hl 1 rfl) ?_
    refine lv_if_ge (tgt := 59) hx hb dJ7_rangeCheck_23922_47 (by decide) (fun c3 => ?_) (fun c3 => ?_)
    · skip
      have f4 : 0 ≤ p1.toInt := b_le (by decide) rfl c3
      refine lv_iload_n hx hb dJ7_rangeCheck_23922_59 rfl (lv_at hl 2 rfl) ?_
      refine lv_iload_n hx hb dJ7_rangeCheck_23922_60 rfl (lv_at hl 0 rfl) ?_
      refine lv_icmp_le (tgt := 73) hx hb dJ7_rangeCheck_23922_61 (by decide) (fun c5 => ?_) (fun c5 => ?_)
      · skip
        have f6 : p2.toInt ≤ p0.toInt := b_le rfl rfl c5
        exact W.vret hx hb hr (fun t ht hW => ⟨⟨(), rfl, trivial, by rw [ht]; exact hP, va_K.moved hW.alike hK, hD⟩, hS.F ht⟩) hS.2.2 dJ7_rangeCheck_23922_73
      · skip
        have f7 : p0.toInt < p2.toInt := b_nle rfl rfl c5
        exfalso; omega
    · skip
      have f8 : p1.toInt < 0 := b_nle (by decide) rfl c3
      exfalso; omega
  · skip
    have f9 : p2.toInt < p1.toInt := b_nle rfl rfl c1
    exfalso; omega
abbrev r_x_fillChains : Room := { frames := 1, cells := 0, slots := 0, locals := 22 }
abbrev q_x_fillChains (D : va_G) (ks : KS) (ad : Nat → Nat) (kk : Nat → ClassId) (V : Vf) (L : Lf) (Z : XZ) (p1 : Int32) (p2 : Int32) (p3 : Int32) (A : Nat → Prop) : Array Value → State → Outcome → State → Prop := va_Qv (fun (u : Vf × Lf) => rgd bX u.1 ∧ agr [] [30] V u.1 ∧ u.2 = L ∧ ((∀ q : Nat, p1.toInt ≤ (q : Int) → (q : Int) < p2.toInt → u.1 30 (q) = p3)) ∧ ((∀ q : Nat, ¬ (Int32.toNatClampNeg p1 ≤ q ∧ q < Int32.toNatClampNeg p2) → u.1 30 q = V 30 q))) (fun u t => gq D A (xw ad kk u.1 u.2 Z) (xty kk Z) t) A
set_option maxHeartbeats 4000000 in
set_option maxRecDepth 100000 in
theorem x_fillChains (l : Launch) (D : va_G) (ks : KS) (sz : Nat) (ad : Nat → Nat) (kk : Nat → ClassId) (V : Vf) (L : Lf) (Z : XZ) (p1 : Int32) (p2 : Int32) (p3 : Int32) (hMV : rgd bX V) (rg_p1 : 0 ≤ p1.toInt ∧ p1.toInt ≤ 2392) (rg_p2 : 8 ≤ p2.toInt ∧ p2.toInt ≤ 2400) (rg_p3 : (-1) ≤ p3.toInt ∧ p3.toInt ≤ (-1)) (y1 : p1.toInt ≤ p2.toInt)  : Met l yJ7_fill_fda19 (Cond.code yJ7_fill_fda19 cJ7_fill_fda19 5 none :: GW) r_x_fillChains (va_Pc [.ref (ad 27), .int p1, .int p2, .int p3] (gp D ks (xw ad kk V L Z) (xty kk Z) sz)) (q_x_fillChains D ks ad kk V L Z p1 p2 p3 (va_A (xw ad kk V L Z) sz)) 0 0 (va_A (xw ad kk V L Z) sz) := by
  refine g_met (q_x_fillChains D ks ad kk V L Z p1 p2 p3) (by decide) (Nat.le_of_ble_eq_true rfl) ?_
  intro p e s m below meth c A ls H locs hx hb hr hml hown hg hlocks hin hnw hgk hP hK hD hS hA hl
  have hown : s.vm.findClass RJ7 = some m.cls := hown
  have hl : lv_has ls 5 [(0, .ref (ad 27)), (1, .int p1), (2, .int p2), (3, .int p3)] := hl
  have hP : va_P D vwCl (xw ad kk V L Z) H := hP
  have hD : va_D A (xw ad kk V L Z) := hD
  have hK : va_K D vwCl (xty kk Z) s := hK
  have agV : agr [] [30] V V := agr.rf
  refine lv_aload_n hx hb dJ7_fill_fda19_0 rfl (lv_at hl 0 rfl) ?_
  refine va_alen (D := D) (v := 2400) hx hb hK hP 27 20 rfl rfl rfl dJ7_fill_fda19_1 ?_
  refine lv_iload_n hx hb dJ7_fill_fda19_2 rfl (lv_at hl 1 rfl) ?_
  refine lv_iload_n hx hb dJ7_fill_fda19_3 rfl (lv_at hl 2 rfl) ?_
  have r1 : Int32.toInt 2400 = 2400 := by decide
  refine gE_void (g_runS (As := [.int 2400, .int p1, .int p2]) (rest := []) (wc := []) (tc := []) hx hb hml hown hg gw_self hP hD hK hS hA hnw hgk [] [] (by decide) rfl rfl (x_rangeCheck l D ks H.size 2400 p1 p2 (show p1.toInt ≤ p2.toInt from by omega) (show 0 ≤ p1.toInt from by omega) (show p2.toInt ≤ (Int32.toInt 2400) from by omega)) w1293 w1294 w165 w1295 hdS_yJ7_rangeCheck_23922 ⟨Nat.le_of_ble_eq_true rfl, Nat.le_of_ble_eq_true rfl⟩ rfl hl.1 rfl (Nat.le_of_ble_eq_true rfl) dJ7_fill_fda19_4 ⟨Nat.le_of_ble_eq_true rfl, Nat.le_of_ble_eq_true rfl⟩) hP hD hK hS hA (fun u3 H locs w4 hP hD hK hS => ?_)
  refine lv_iload_n hx hb dJ7_fill_fda19_7 rfl (lv_at hl 1 rfl) ?_
  refine lv_istore (lv' := [(4, .int p1), (0, .ref (ad 27)), (1, .int p1), (2, .int p2), (3, .int p3)]) hx hb dJ7_fill_fda19_8 hl (by decide) rfl (fun ls hl => ?_)
  have lp7 : ∀ (fulp7 : Nat) (y5 : Int32) (V6 : Vf) (H : Heap) (locs : List Loc) (ls : Array Slot), 0 ≤ y5.toInt ∧ y5.toInt ≤ 2400 → p1.toInt ≤ y5.toInt → y5.toInt ≤ p2.toInt → (∀ q : Nat, p1.toInt ≤ (q : Int) → (q : Int) < y5.toInt → V6 30 (q) = p3) → (∀ q : Nat, ¬ (Int32.toNatClampNeg p1 ≤ q ∧ q < Int32.toNatClampNeg p2) → V6 30 q = V 30 q) → p2.toInt - y5.toInt < (fulp7 : Int) → agr [] [30] V V6 → rgd bX V6 → va_P D vwCl (xw ad kk V6 L Z) H → va_D A (xw ad kk V6 L Z) → va_S A s.heap H locs → lv_has ls 5 [(4, .int y5), (0, .ref (ad 27)), (1, .int p1), (2, .int p2), (3, .int p3)] → W p l e r_x_fillChains s m ([.ref (ad 27), .int p1, .int p2, .int p3] : List Value).toArray below meth c H locs 0 0 (MQ below (q_x_fillChains D ks ad kk V L Z p1 p2 p3 A) ([.ref (ad 27), .int p1, .int p2, .int p3] : List Value).toArray s 0 0 A) (F0 m 10 ls []) := by
    intro fulp7
    induction fulp7 with
    | zero =>
      intro y5 V6 H locs ls klp7_0 xlp7_0 xlp7_1 xlp7_2 xlp7_3 hn ajV6 hMV6 hP hD hS hl
      exfalso; omega
    | succ fulp7 ihlp7 =>
      intro y5 V6 H locs ls klp7_0 xlp7_0 xlp7_1 xlp7_2 xlp7_3 hn ajV6 hMV6 hP hD hS hl
      have agV6 : agr [] [30] V V6 := agV.tr ajV6 (by decide) (by decide)
      refine lv_iload hx hb dJ7_fill_fda19_10 (lv_at hl 0 rfl) ?_
      refine lv_iload_n hx hb dJ7_fill_fda19_12 rfl (lv_at hl 3 rfl) ?_
      refine lv_icmp_ge (tgt := 27) hx hb dJ7_fill_fda19_13 (by decide) (fun c8 => ?_) (fun c8 => ?_)
      · skip
        have f9 : p2.toInt ≤ y5.toInt := b_le rfl rfl c8
        exact W.vret hx hb hr (fun t ht hW => ⟨⟨(V6, L), rfl, ⟨hMV6, agV6, rfl, (fun q h1 h2 => xlp7_2 q (by omega) (by omega)), xlp7_3⟩, by rw [ht]; exact hP, va_K.moved hW.alike hK, hD⟩, hS.F ht⟩) hS.2.2 dJ7_fill_fda19_27
      · skip
        have f10 : y5.toInt < p2.toInt := b_nle rfl rfl c8
        have k9 := i_clamp (x := y5) rfl (by omega)
        have k8 := i_clamp (x := p1) rfl (by omega)
        have k7 := i_clamp (x := p2) rfl (by omega)
        refine lv_aload_n hx hb dJ7_fill_fda19_16 rfl (lv_at hl 1 rfl) ?_
        refine lv_iload hx hb dJ7_fill_fda19_17 (lv_at hl 0 rfl) ?_
        refine lv_iload_n hx hb dJ7_fill_fda19_19 rfl (lv_at hl 4 rfl) ?_
        refine va_iast (D := D) (i := y5) (x := p3) hx hb hK hP hD hS 27 20 rfl rfl (i_in (a := y5.toInt) rfl (by omega)) dJ7_fill_fda19_20 (fun H locs hP hD hS => ?_)
        obtain ⟨V11, hV11⟩ : ∃ z, z = up2 V6 30 (Int32.toNatClampNeg y5) p3 := ⟨_, rfl⟩
        have ew12 : (xw ad kk V6 L Z).set 27 ((ad 27), .inl ((kk 27), 2400, .inl (upd (V6 30) (Int32.toNatClampNeg y5) p3))) = xw ad kk V11 L Z := by rw [hV11]; exact xw_ss (by decide) rfl (xb_si (by decide))
        have hP : va_P D vwCl (xw ad kk V11 L Z) H := by rw [← ew12]; exact hP
        have hD : va_D A (xw ad kk V11 L Z) := by rw [← ew12]; exact hD
        have hMV11 : rgd bX V11 := hMV6.put hV11 (show (-1) ≤ p3.toInt ∧ p3.toInt ≤ 262143 from by omega)
        have agV11 : agr [] [30] V V11 := agV6.up hV11 rfl
        obtain ⟨z13, ez13⟩ : ∃ y : Int32, y = y5 + 1 := ⟨_, rfl⟩
        have hz13 : z13.toInt = y5.toInt + 1 := i_add ez13 rfl (by decide) (by omega)
        refine lv_iinc (v := z13) (lv' := [(4, .int z13), (0, .ref (ad 27)), (1, .int p1), (2, .int p2), (3, .int p3)]) hx hb dJ7_fill_fda19_21 hl (k := 0) rfl (by rw [ez13]; rfl) (by decide) rfl (fun ls hl => ?_)
        refine lv_goto (tgt := 10) hx hb dJ7_fill_fda19_24 (by decide) ?_
        exact ihlp7 z13 V11 H locs ls (by omega) (show p1.toInt ≤ z13.toInt from by omega) (show z13.toInt ≤ p2.toInt from by omega) (fun q h1 h2 => by rcases Decidable.em ((q) = (Int32.toNatClampNeg y5)) with h9 | h9; (rw [h9]; exact up2_s hV11); (rw [up2_k hV11 h9]; exact xlp7_2 q h1 (by omega))) (fun q h1 => (up2_k hV11 (fun h9 => h1 (by omega))).trans (xlp7_3 q h1)) (by omega) (agr.up (agr.tr agr.rf ajV6 (by decide) (by decide)) hV11 rfl) hMV11 hP hD hS (lv_sub hl [0, 1, 2, 3, 4] rfl)
  exact lp7 ((p2.toInt - p1.toInt + 1 : Int).toNat) p1 V H locs ls (by omega) (show p1.toInt ≤ p1.toInt from by omega) (show p1.toInt ≤ p2.toInt from by omega) (fun q h1 h2 => absurd h2 (by omega)) (fun q h1 => rfl) (by omega) agr.rf hMV hP hD hS (lv_sub hl [0, 1, 2, 3, 4] rfl)
abbrev r_x_bitCount : Room := { frames := 0, cells := 0, slots := 0, locals := 0 }
abbrev q_x_bitCount (D : va_G) (p0 : Int32) (A : Nat → Prop) : Array Value → State → Outcome → State → Prop := va_Qi (fun (r : Int32) (_ : Unit) => True) (fun _ t => gq D A [] [] t) A