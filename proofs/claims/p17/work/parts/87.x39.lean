section
theorem fill_up {f g h : Nat → Int32} {i : Nat} {pv : Int32} (hg : ∀ q : Nat, g q = if q < i then pv else f q) (e : h = upd g i pv) : ∀ q : Nat, h q = if q < i + 1 then pv else f q := by
  intro q
  rw [e]
  show (if q = i then pv else g q) = _
  by_cases z : q = i
  · rw [if_pos z, if_pos (by omega)]
  · rw [if_neg z, hg q]
    by_cases y : q < i
    · rw [if_pos y, if_pos (by omega)]
    · rw [if_neg y, if_neg (by omega)]
theorem kw48 : ∀ i, i < 155 → ¬ kwc i = 32 → ¬ kwc i < 48 := by decide +kernel
theorem kw57 : ∀ i, i < 155 → ¬ kwc i = 32 → kwc i > 57 := by decide +kernel
theorem sp_lt : ∀ i, i < 155 → sp i < 28 := by decide +kernel
def kc : Nat → Nat → Int64
  | 0, _ => 0
  | i + 1, j => if kwc i = 32 then kc i j else (if j = sp i then kc i j * 37 + Int32.toInt64 (kwc i - 97 + 1) else kc i j)
theorem kc_kg : ∀ j, j < 28 → kc 155 j = kg 155 j := by decide +kernel
theorem kc_p {i : Nat} (h : kwc i = 32) (j : Nat) : kc (i + 1) j = kc i j := if_pos h
theorem kc_n {i : Nat} (h : ¬ kwc i = 32) (j : Nat) : kc (i + 1) j = if j = sp i then kc i j * 37 + Int32.toInt64 (kwc i - 97 + 1) else kc i j := if_neg h
theorem kc_up {i k : Nat} {g : Nat → Int64} (hk : k = sp i) (hg : ∀ j : Nat, g j = kc i j) (j : Nat) : vp_updL g k (g k * 37 + Int32.toInt64 (kwc i - 97 + 1)) j = if j = sp i then kc i j * 37 + Int32.toInt64 (kwc i - 97 + 1) else kc i j := by
  unfold vp_updL
  rw [← hk]
  by_cases h : j = k
  · rw [if_pos h, if_pos h, h, hg k]
  · rw [if_neg h, if_neg h]
    exact hg j

theorem w478 : Cond.methodLink RX6 3 objectInit ∈ GW := gw_k tk9_2 83 (by decide +kernel) rfl
theorem w574 : Cond.methodLink RX10 1 objectInit ∈ GW := gw_k tk9_2 179 (by decide +kernel) rfl
theorem w498 : Cond.methodLink RX3 3 objectInit ∈ GW := gw_k tk9_2 103 (by decide +kernel) rfl
theorem w434 : Cond.methodLink RX7 3 objectInit ∈ GW := gw_k tk9_2 39 (by decide +kernel) rfl
theorem w337 : Cond.methodLink RX2 3 objectInit ∈ GW := gw_k tk9_1 182 (by decide +kernel) rfl
theorem w303 : Cond.methodLink RX1 3 objectInit ∈ GW := gw_k tk9_1 148 (by decide +kernel) rfl
theorem w664 : Cond.methodLink RX5 3 objectInit ∈ GW := gw_k tk9_3 29 (by decide +kernel) rfl
theorem w369 : Cond.methodLink RX8 3 objectInit ∈ GW := gw_k tk9_1 214 (by decide +kernel) rfl
theorem w195 : Cond.methodLink RX9 3 objectInit ∈ GW := gw_k tk9_1 40 (by decide +kernel) rfl
theorem w295 : Cond.arrayClass .byte ∈ GW := gw_k tk9_1 140 (by decide +kernel) rfl
theorem w197 : Cond.methodLink RX9 31 yJ0_length_8abf5 ∈ GW := gw_k tk9_1 42 (by decide +kernel) rfl
theorem w207 : Cond.methodLink RX9 37 yJ0_charAt_5068e ∈ GW := gw_k tk9_1 52 (by decide +kernel) rfl
theorem dk9_dX6_init_0_0 : dOk cX6_init [(0, .aload_n 0, 1), (1, .invokespecial 3, 3), (4, .aload_n 0, 1), (5, .iload_n 1, 1), (6, .ifCond .le 7, 3), (9, .iload_n 1, 1), (10, .goto 4, 3), (14, .newarray .long, 2), (16, .putfield 9, 3), (19, .return_, 1)] = true := by decide +kernel
theorem dX6_init_0 : decode cX6_init 0 = .ok (.aload_n 0, 1) := dr9 dk9_dX6_init_0_0 0 (0, .aload_n 0, 1) rfl
theorem dX6_init_1 : decode cX6_init 1 = .ok (.invokespecial 3, 3) := dr9 dk9_dX6_init_0_0 1 (1, .invokespecial 3, 3) rfl
theorem dX6_init_4 : decode cX6_init 4 = .ok (.aload_n 0, 1) := dr9 dk9_dX6_init_0_0 2 (4, .aload_n 0, 1) rfl
theorem dX6_init_5 : decode cX6_init 5 = .ok (.iload_n 1, 1) := dr9 dk9_dX6_init_0_0 3 (5, .iload_n 1, 1) rfl
theorem dX6_init_6 : decode cX6_init 6 = .ok (.ifCond .le 7, 3) := dr9 dk9_dX6_init_0_0 4 (6, .ifCond .le 7, 3) rfl
theorem dX6_init_9 : decode cX6_init 9 = .ok (.iload_n 1, 1) := dr9 dk9_dX6_init_0_0 5 (9, .iload_n 1, 1) rfl
theorem dX6_init_10 : decode cX6_init 10 = .ok (.goto 4, 3) := dr9 dk9_dX6_init_0_0 6 (10, .goto 4, 3) rfl
theorem dX6_init_14 : decode cX6_init 14 = .ok (.newarray .long, 2) := dr9 dk9_dX6_init_0_0 7 (14, .newarray .long, 2) rfl
theorem dX6_init_16 : decode cX6_init 16 = .ok (.putfield 9, 3) := dr9 dk9_dX6_init_0_0 8 (16, .putfield 9, 3) rfl
theorem dX6_init_19 : decode cX6_init 19 = .ok (.return_, 1) := dr9 dk9_dX6_init_0_0 9 (19, .return_, 1) rfl
theorem dk9_dX10_init_0_0 : dOk cX10_init [(0, .aload_n 0, 1), (1, .invokespecial 1, 3), (4, .return_, 1)] = true := by decide +kernel
theorem dX10_init_0 : decode cX10_init 0 = .ok (.aload_n 0, 1) := dr9 dk9_dX10_init_0_0 0 (0, .aload_n 0, 1) rfl
theorem dX10_init_1 : decode cX10_init 1 = .ok (.invokespecial 1, 3) := dr9 dk9_dX10_init_0_0 1 (1, .invokespecial 1, 3) rfl
theorem dX10_init_4 : decode cX10_init 4 = .ok (.return_, 1) := dr9 dk9_dX10_init_0_0 2 (4, .return_, 1) rfl
theorem dk9_dX3_init_0_0 : dOk cX3_init [(0, .aload_n 0, 1), (1, .invokespecial 3, 3), (4, .aload_n 0, 1), (5, .bipush 8, 2), (7, .newarray .int, 2), (9, .putfield 9, 3), (12, .aload_n 0, 1), (13, .bipush 8, 2), (15, .newarray .int, 2), (17, .putfield 15, 3), (20, .aload_n 0, 1), (21, .bipush 8, 2), (23, .newarray .int, 2), (25, .putfield 18, 3), (28, .aload_n 0, 1), (29, .bipush 20, 2), (31, .newarray .int, 2), (33, .putfield 21, 3), (36, .return_, 1)] = true := by decide +kernel
theorem dX3_init_0 : decode cX3_init 0 = .ok (.aload_n 0, 1) := dr9 dk9_dX3_init_0_0 0 (0, .aload_n 0, 1) rfl
theorem dX3_init_1 : decode cX3_init 1 = .ok (.invokespecial 3, 3) := dr9 dk9_dX3_init_0_0 1 (1, .invokespecial 3, 3) rfl
theorem dX3_init_4 : decode cX3_init 4 = .ok (.aload_n 0, 1) := dr9 dk9_dX3_init_0_0 2 (4, .aload_n 0, 1) rfl
theorem dX3_init_5 : decode cX3_init 5 = .ok (.bipush 8, 2) := dr9 dk9_dX3_init_0_0 3 (5, .bipush 8, 2) rfl
theorem dX3_init_7 : decode cX3_init 7 = .ok (.newarray .int, 2) := dr9 dk9_dX3_init_0_0 4 (7, .newarray .int, 2) rfl
theorem dX3_init_9 : decode cX3_init 9 = .ok (.putfield 9, 3) := dr9 dk9_dX3_init_0_0 5 (9, .putfield 9, 3) rfl
theorem dX3_init_12 : decode cX3_init 12 = .ok (.aload_n 0, 1) := dr9 dk9_dX3_init_0_0 6 (12, .aload_n 0, 1) rfl
theorem dX3_init_13 : decode cX3_init 13 = .ok (.bipush 8, 2) := dr9 dk9_dX3_init_0_0 7 (13, .bipush 8, 2) rfl
theorem dX3_init_15 : decode cX3_init 15 = .ok (.newarray .int, 2) := dr9 dk9_dX3_init_0_0 8 (15, .newarray .int, 2) rfl
theorem dX3_init_17 : decode cX3_init 17 = .ok (.putfield 15, 3) := dr9 dk9_dX3_init_0_0 9 (17, .putfield 15, 3) rfl
theorem dX3_init_20 : decode cX3_init 20 = .ok (.aload_n 0, 1) := dr9 dk9_dX3_init_0_0 10 (20, .aload_n 0, 1) rfl
theorem dX3_init_21 : decode cX3_init 21 = .ok (.bipush 8, 2) := dr9 dk9_dX3_init_0_0 11 (21, .bipush 8, 2) rfl
theorem dX3_init_23 : decode cX3_init 23 = .ok (.newarray .int, 2) := dr9 dk9_dX3_init_0_0 12 (23, .newarray .int, 2) rfl
theorem dX3_init_25 : decode cX3_init 25 = .ok (.putfield 18, 3) := dr9 dk9_dX3_init_0_0 13 (25, .putfield 18, 3) rfl
theorem dX3_init_28 : decode cX3_init 28 = .ok (.aload_n 0, 1) := dr9 dk9_dX3_init_0_0 14 (28, .aload_n 0, 1) rfl
theorem dX3_init_29 : decode cX3_init 29 = .ok (.bipush 20, 2) := dr9 dk9_dX3_init_0_0 15 (29, .bipush 20, 2) rfl
theorem dX3_init_31 : decode cX3_init 31 = .ok (.newarray .int, 2) := dr9 dk9_dX3_init_0_0 16 (31, .newarray .int, 2) rfl
theorem dX3_init_33 : decode cX3_init 33 = .ok (.putfield 21, 3) := dr9 dk9_dX3_init_0_0 17 (33, .putfield 21, 3) rfl
theorem dX3_init_36 : decode cX3_init 36 = .ok (.return_, 1) := dr9 dk9_dX3_init_0_0 18 (36, .return_, 1) rfl
theorem dk9_dX7_init_0_0 : dOk cX7_init [(0, .aload_n 0, 1), (1, .invokespecial 3, 3), (4, .aload_n 0, 1), (5, .bipush 100, 2), (7, .newarray .int, 2), (9, .putfield 9, 3), (12, .aload_n 0, 1), (13, .bipush 100, 2), (15, .newarray .int, 2), (17, .putfield 15, 3), (20, .aload_n 0, 1), (21, .bipush 100, 2), (23, .newarray .int, 2), (25, .putfield 18, 3), (28, .aload_n 0, 1), (29, .sipush 300, 3), (32, .newarray .int, 2), (34, .putfield 21, 3), (37, .aload_n 0, 1), (38, .sipush 300, 3), (41, .newarray .int, 2), (43, .putfield 24, 3), (46, .return_, 1)] = true := by decide +kernel
theorem dX7_init_0 : decode cX7_init 0 = .ok (.aload_n 0, 1) := dr9 dk9_dX7_init_0_0 0 (0, .aload_n 0, 1) rfl
theorem dX7_init_1 : decode cX7_init 1 = .ok (.invokespecial 3, 3) := dr9 dk9_dX7_init_0_0 1 (1, .invokespecial 3, 3) rfl
theorem dX7_init_4 : decode cX7_init 4 = .ok (.aload_n 0, 1) := dr9 dk9_dX7_init_0_0 2 (4, .aload_n 0, 1) rfl
theorem dX7_init_5 : decode cX7_init 5 = .ok (.bipush 100, 2) := dr9 dk9_dX7_init_0_0 3 (5, .bipush 100, 2) rfl
theorem dX7_init_7 : decode cX7_init 7 = .ok (.newarray .int, 2) := dr9 dk9_dX7_init_0_0 4 (7, .newarray .int, 2) rfl
theorem dX7_init_9 : decode cX7_init 9 = .ok (.putfield 9, 3) := dr9 dk9_dX7_init_0_0 5 (9, .putfield 9, 3) rfl
theorem dX7_init_12 : decode cX7_init 12 = .ok (.aload_n 0, 1) := dr9 dk9_dX7_init_0_0 6 (12, .aload_n 0, 1) rfl
theorem dX7_init_13 : decode cX7_init 13 = .ok (.bipush 100, 2) := dr9 dk9_dX7_init_0_0 7 (13, .bipush 100, 2) rfl
theorem dX7_init_15 : decode cX7_init 15 = .ok (.newarray .int, 2) := dr9 dk9_dX7_init_0_0 8 (15, .newarray .int, 2) rfl
theorem dX7_init_17 : decode cX7_init 17 = .ok (.putfield 15, 3) := dr9 dk9_dX7_init_0_0 9 (17, .putfield 15, 3) rfl
theorem dX7_init_20 : decode cX7_init 20 = .ok (.aload_n 0, 1) := dr9 dk9_dX7_init_0_0 10 (20, .aload_n 0, 1) rfl
theorem dX7_init_21 : decode cX7_init 21 = .ok (.bipush 100, 2) := dr9 dk9_dX7_init_0_0 11 (21, .bipush 100, 2) rfl
theorem dX7_init_23 : decode cX7_init 23 = .ok (.newarray .int, 2) := dr9 dk9_dX7_init_0_0 12 (23, .newarray .int, 2) rfl
theorem dX7_init_25 : decode cX7_init 25 = .ok (.putfield 18, 3) := dr9 dk9_dX7_init_0_0 13 (25, .putfield 18, 3) rfl
theorem dX7_init_28 : decode cX7_init 28 = .ok (.aload_n 0, 1) := dr9 dk9_dX7_init_0_0 14 (28, .aload_n 0, 1) rfl
theorem dX7_init_29 : decode cX7_init 29 = .ok (.sipush 300, 3) := dr9 dk9_dX7_init_0_0 15 (29, .sipush 300, 3) rfl
theorem dX7_init_32 : decode cX7_init 32 = .ok (.newarray .int, 2) := dr9 dk9_dX7_init_0_0 16 (32, .newarray .int, 2) rfl
theorem dX7_init_34 : decode cX7_init 34 = .ok (.putfield 21, 3) := dr9 dk9_dX7_init_0_0 17 (34, .putfield 21, 3) rfl
theorem dX7_init_37 : decode cX7_init 37 = .ok (.aload_n 0, 1) := dr9 dk9_dX7_init_0_0 18 (37, .aload_n 0, 1) rfl
theorem dX7_init_38 : decode cX7_init 38 = .ok (.sipush 300, 3) := dr9 dk9_dX7_init_0_0 19 (38, .sipush 300, 3) rfl
theorem dX7_init_41 : decode cX7_init 41 = .ok (.newarray .int, 2) := dr9 dk9_dX7_init_0_0 20 (41, .newarray .int, 2) rfl
theorem dX7_init_43 : decode cX7_init 43 = .ok (.putfield 24, 3) := dr9 dk9_dX7_init_0_0 21 (43, .putfield 24, 3) rfl
theorem dX7_init_46 : decode cX7_init 46 = .ok (.return_, 1) := dr9 dk9_dX7_init_0_0 22 (46, .return_, 1) rfl
theorem dk9_dX2_init_0_0 : dOk cX2_init [(0, .aload_n 0, 1), (1, .invokespecial 3, 3), (4, .aload_n 0, 1), (5, .bipush 100, 2), (7, .newarray .int, 2), (9, .putfield 9, 3), (12, .aload_n 0, 1), (13, .bipush 100, 2), (15, .newarray .int, 2), (17, .putfield 15, 3), (20, .aload_n 0, 1), (21, .bipush 100, 2), (23, .newarray .int, 2), (25, .putfield 18, 3), (28, .aload_n 0, 1), (29, .sipush 2400, 3), (32, .newarray .int, 2), (34, .putfield 21, 3), (37, .aload_n 0, 1), (38, .bipush 24, 2), (40, .newarray .int, 2), (42, .putfield 24, 3), (45, .aload_n 0, 1), (46, .bipush 24, 2)] = true ∧ dOk cX2_init [(48, .newarray .int, 2), (50, .putfield 27, 3), (53, .return_, 1)] = true := by decide +kernel
theorem dX2_init_0 : decode cX2_init 0 = .ok (.aload_n 0, 1) := dr9 dk9_dX2_init_0_0.1 0 (0, .aload_n 0, 1) rfl
theorem dX2_init_1 : decode cX2_init 1 = .ok (.invokespecial 3, 3) := dr9 dk9_dX2_init_0_0.1 1 (1, .invokespecial 3, 3) rfl
theorem dX2_init_4 : decode cX2_init 4 = .ok (.aload_n 0, 1) := dr9 dk9_dX2_init_0_0.1 2 (4, .aload_n 0, 1) rfl
theorem dX2_init_5 : decode cX2_init 5 = .ok (.bipush 100, 2) := dr9 dk9_dX2_init_0_0.1 3 (5, .bipush 100, 2) rfl
theorem dX2_init_7 : decode cX2_init 7 = .ok (.newarray .int, 2) := dr9 dk9_dX2_init_0_0.1 4 (7, .newarray .int, 2) rfl
theorem dX2_init_9 : decode cX2_init 9 = .ok (.putfield 9, 3) := dr9 dk9_dX2_init_0_0.1 5 (9, .putfield 9, 3) rfl
theorem dX2_init_12 : decode cX2_init 12 = .ok (.aload_n 0, 1) := dr9 dk9_dX2_init_0_0.1 6 (12, .aload_n 0, 1) rfl
theorem dX2_init_13 : decode cX2_init 13 = .ok (.bipush 100, 2) := dr9 dk9_dX2_init_0_0.1 7 (13, .bipush 100, 2) rfl
theorem dX2_init_15 : decode cX2_init 15 = .ok (.newarray .int, 2) := dr9 dk9_dX2_init_0_0.1 8 (15, .newarray .int, 2) rfl
theorem dX2_init_17 : decode cX2_init 17 = .ok (.putfield 15, 3) := dr9 dk9_dX2_init_0_0.1 9 (17, .putfield 15, 3) rfl
theorem dX2_init_20 : decode cX2_init 20 = .ok (.aload_n 0, 1) := dr9 dk9_dX2_init_0_0.1 10 (20, .aload_n 0, 1) rfl
theorem dX2_init_21 : decode cX2_init 21 = .ok (.bipush 100, 2) := dr9 dk9_dX2_init_0_0.1 11 (21, .bipush 100, 2) rfl
theorem dX2_init_23 : decode cX2_init 23 = .ok (.newarray .int, 2) := dr9 dk9_dX2_init_0_0.1 12 (23, .newarray .int, 2) rfl
theorem dX2_init_25 : decode cX2_init 25 = .ok (.putfield 18, 3) := dr9 dk9_dX2_init_0_0.1 13 (25, .putfield 18, 3) rfl
theorem dX2_init_28 : decode cX2_init 28 = .ok (.aload_n 0, 1) := dr9 dk9_dX2_init_0_0.1 14 (28, .aload_n 0, 1) rfl
theorem dX2_init_29 : decode cX2_init 29 = .ok (.sipush 2400, 3) := dr9 dk9_dX2_init_0_0.1 15 (29, .sipush 2400, 3) rfl
theorem dX2_init_32 : decode cX2_init 32 = .ok (.newarray .int, 2) := dr9 dk9_dX2_init_0_0.1 16 (32, .newarray .int, 2) rfl
theorem dX2_init_34 : decode cX2_init 34 = .ok (.putfield 21, 3) := dr9 dk9_dX2_init_0_0.1 17 (34, .putfield 21, 3) rfl
theorem dX2_init_37 : decode cX2_init 37 = .ok (.aload_n 0, 1) := dr9 dk9_dX2_init_0_0.1 18 (37, .aload_n 0, 1) rfl
theorem dX2_init_38 : decode cX2_init 38 = .ok (.bipush 24, 2) := dr9 dk9_dX2_init_0_0.1 19 (38, .bipush 24, 2) rfl
theorem dX2_init_40 : decode cX2_init 40 = .ok (.newarray .int, 2) := dr9 dk9_dX2_init_0_0.1 20 (40, .newarray .int, 2) rfl
theorem dX2_init_42 : decode cX2_init 42 = .ok (.putfield 24, 3) := dr9 dk9_dX2_init_0_0.1 21 (42, .putfield 24, 3) rfl
theorem dX2_init_45 : decode cX2_init 45 = .ok (.aload_n 0, 1) := dr9 dk9_dX2_init_0_0.1 22 (45, .aload_n 0, 1) rfl
theorem dX2_init_46 : decode cX2_init 46 = .ok (.bipush 24, 2) := dr9 dk9_dX2_init_0_0.1 23 (46, .bipush 24, 2) rfl
theorem dX2_init_48 : decode cX2_init 48 = .ok (.newarray .int, 2) := dr9 dk9_dX2_init_0_0.2 0 (48, .newarray .int, 2) rfl
theorem dX2_init_50 : decode cX2_init 50 = .ok (.putfield 27, 3) := dr9 dk9_dX2_init_0_0.2 1 (50, .putfield 27, 3) rfl
theorem dX2_init_53 : decode cX2_init 53 = .ok (.return_, 1) := dr9 dk9_dX2_init_0_0.2 2 (53, .return_, 1) rfl
theorem dk9_dX1_init_0_0 : dOk cX1_init [(0, .aload_n 0, 1), (1, .invokespecial 3, 3), (4, .aload_n 0, 1), (5, .aload_n 1, 1), (6, .putfield 9, 3), (9, .return_, 1)] = true := by decide +kernel
theorem dX1_init_0 : decode cX1_init 0 = .ok (.aload_n 0, 1) := dr9 dk9_dX1_init_0_0 0 (0, .aload_n 0, 1) rfl
theorem dX1_init_1 : decode cX1_init 1 = .ok (.invokespecial 3, 3) := dr9 dk9_dX1_init_0_0 1 (1, .invokespecial 3, 3) rfl
theorem dX1_init_4 : decode cX1_init 4 = .ok (.aload_n 0, 1) := dr9 dk9_dX1_init_0_0 2 (4, .aload_n 0, 1) rfl
theorem dX1_init_5 : decode cX1_init 5 = .ok (.aload_n 1, 1) := dr9 dk9_dX1_init_0_0 3 (5, .aload_n 1, 1) rfl
theorem dX1_init_6 : decode cX1_init 6 = .ok (.putfield 9, 3) := dr9 dk9_dX1_init_0_0 4 (6, .putfield 9, 3) rfl
theorem dX1_init_9 : decode cX1_init 9 = .ok (.return_, 1) := dr9 dk9_dX1_init_0_0 5 (9, .return_, 1) rfl
theorem dk9_dX5_init_0_0 : dOk cX5_init [(0, .aload_n 0, 1), (1, .invokespecial 3, 3), (4, .aload_n 0, 1), (5, .sipush 400, 3), (8, .anewarray 11, 3), (11, .putfield 13, 3), (14, .aload_n 0, 1), (15, .sipush 2048, 3), (18, .newarray .int, 2), (20, .putfield 17, 3), (23, .aload_n 0, 1), (24, .sipush 300, 3), (27, .newarray .int, 2), (29, .putfield 21, 3), (32, .aload_n 0, 1), (33, .aload_n 1, 1), (34, .putfield 24, 3), (37, .aload_n 0, 1), (38, .aload_n 2, 1), (39, .putfield 28, 3), (42, .aload_n 0, 1), (43, .aload_n 3, 1), (44, .putfield 32, 3), (47, .return_, 1)] = true := by decide +kernel
theorem dX5_init_0 : decode cX5_init 0 = .ok (.aload_n 0, 1) := dr9 dk9_dX5_init_0_0 0 (0, .aload_n 0, 1) rfl
theorem dX5_init_1 : decode cX5_init 1 = .ok (.invokespecial 3, 3) := dr9 dk9_dX5_init_0_0 1 (1, .invokespecial 3, 3) rfl
theorem dX5_init_4 : decode cX5_init 4 = .ok (.aload_n 0, 1) := dr9 dk9_dX5_init_0_0 2 (4, .aload_n 0, 1) rfl
theorem dX5_init_5 : decode cX5_init 5 = .ok (.sipush 400, 3) := dr9 dk9_dX5_init_0_0 3 (5, .sipush 400, 3) rfl
theorem dX5_init_8 : decode cX5_init 8 = .ok (.anewarray 11, 3) := dr9 dk9_dX5_init_0_0 4 (8, .anewarray 11, 3) rfl
theorem dX5_init_11 : decode cX5_init 11 = .ok (.putfield 13, 3) := dr9 dk9_dX5_init_0_0 5 (11, .putfield 13, 3) rfl
theorem dX5_init_14 : decode cX5_init 14 = .ok (.aload_n 0, 1) := dr9 dk9_dX5_init_0_0 6 (14, .aload_n 0, 1) rfl
theorem dX5_init_15 : decode cX5_init 15 = .ok (.sipush 2048, 3) := dr9 dk9_dX5_init_0_0 7 (15, .sipush 2048, 3) rfl
theorem dX5_init_18 : decode cX5_init 18 = .ok (.newarray .int, 2) := dr9 dk9_dX5_init_0_0 8 (18, .newarray .int, 2) rfl
theorem dX5_init_20 : decode cX5_init 20 = .ok (.putfield 17, 3) := dr9 dk9_dX5_init_0_0 9 (20, .putfield 17, 3) rfl
theorem dX5_init_23 : decode cX5_init 23 = .ok (.aload_n 0, 1) := dr9 dk9_dX5_init_0_0 10 (23, .aload_n 0, 1) rfl
theorem dX5_init_24 : decode cX5_init 24 = .ok (.sipush 300, 3) := dr9 dk9_dX5_init_0_0 11 (24, .sipush 300, 3) rfl
theorem dX5_init_27 : decode cX5_init 27 = .ok (.newarray .int, 2) := dr9 dk9_dX5_init_0_0 12 (27, .newarray .int, 2) rfl
theorem dX5_init_29 : decode cX5_init 29 = .ok (.putfield 21, 3) := dr9 dk9_dX5_init_0_0 13 (29, .putfield 21, 3) rfl
theorem dX5_init_32 : decode cX5_init 32 = .ok (.aload_n 0, 1) := dr9 dk9_dX5_init_0_0 14 (32, .aload_n 0, 1) rfl
theorem dX5_init_33 : decode cX5_init 33 = .ok (.aload_n 1, 1) := dr9 dk9_dX5_init_0_0 15 (33, .aload_n 1, 1) rfl
theorem dX5_init_34 : decode cX5_init 34 = .ok (.putfield 24, 3) := dr9 dk9_dX5_init_0_0 16 (34, .putfield 24, 3) rfl
theorem dX5_init_37 : decode cX5_init 37 = .ok (.aload_n 0, 1) := dr9 dk9_dX5_init_0_0 17 (37, .aload_n 0, 1) rfl
theorem dX5_init_38 : decode cX5_init 38 = .ok (.aload_n 2, 1) := dr9 dk9_dX5_init_0_0 18 (38, .aload_n 2, 1) rfl
theorem dX5_init_39 : decode cX5_init 39 = .ok (.putfield 28, 3) := dr9 dk9_dX5_init_0_0 19 (39, .putfield 28, 3) rfl
theorem dX5_init_42 : decode cX5_init 42 = .ok (.aload_n 0, 1) := dr9 dk9_dX5_init_0_0 20 (42, .aload_n 0, 1) rfl
theorem dX5_init_43 : decode cX5_init 43 = .ok (.aload_n 3, 1) := dr9 dk9_dX5_init_0_0 21 (43, .aload_n 3, 1) rfl
theorem dX5_init_44 : decode cX5_init 44 = .ok (.putfield 32, 3) := dr9 dk9_dX5_init_0_0 22 (44, .putfield 32, 3) rfl
theorem dX5_init_47 : decode cX5_init 47 = .ok (.return_, 1) := dr9 dk9_dX5_init_0_0 23 (47, .return_, 1) rfl
theorem dk9_dX8_init_0_0 : dOk cX8_init [(0, .aload_n 0, 1), (1, .invokespecial 3, 3), (4, .aload_n 0, 1), (5, .bipush 40, 2), (7, .newarray .int, 2), (9, .putfield 9, 3), (12, .aload_n 0, 1), (13, .bipush 40, 2), (15, .newarray .int, 2), (17, .putfield 15, 3), (20, .aload_n 0, 1), (21, .bipush 40, 2), (23, .newarray .boolean, 2), (25, .putfield 18, 3), (28, .aload_n 0, 1), (29, .bipush 40, 2), (31, .newarray .int, 2), (33, .putfield 22, 3), (36, .aload_n 0, 1), (37, .sipush 960, 3), (40, .newarray .int, 2), (42, .putfield 25, 3), (45, .aload_n 0, 1), (46, .sipush 300, 3)] = true ∧ dOk cX8_init [(49, .newarray .int, 2), (51, .putfield 28, 3), (54, .aload_n 0, 1), (55, .sipush 300, 3), (58, .newarray .int, 2), (60, .putfield 31, 3), (63, .aload_n 0, 1), (64, .sipush 300, 3), (67, .newarray .int, 2), (69, .putfield 34, 3), (72, .aload_n 0, 1), (73, .sipush 300, 3), (76, .newarray .int, 2), (78, .putfield 37, 3), (81, .aload_n 0, 1), (82, .sipush 2400, 3), (85, .newarray .int, 2), (87, .putfield 40, 3), (90, .aload_n 0, 1), (91, .sipush 512, 3), (94, .newarray .int, 2), (96, .putfield 43, 3), (99, .aload_n 0, 1), (100, .sipush 512, 3)] = true ∧ dOk cX8_init [(103, .newarray .int, 2), (105, .putfield 46, 3), (108, .aload_n 0, 1), (109, .getfield 25, 3), (112, .iconst (-1), 1), (113, .invokestatic 49, 3), (116, .aload_n 0, 1), (117, .getfield 18, 3), (120, .iconst 0, 1), (121, .iconst 1, 1), (122, .bastore, 1), (123, .aload_n 0, 1), (124, .iconst 1, 1), (125, .putfield 55, 3), (128, .return_, 1)] = true := by decide +kernel
theorem dX8_init_0 : decode cX8_init 0 = .ok (.aload_n 0, 1) := dr9 dk9_dX8_init_0_0.1 0 (0, .aload_n 0, 1) rfl
theorem dX8_init_1 : decode cX8_init 1 = .ok (.invokespecial 3, 3) := dr9 dk9_dX8_init_0_0.1 1 (1, .invokespecial 3, 3) rfl
theorem dX8_init_4 : decode cX8_init 4 = .ok (.aload_n 0, 1) := dr9 dk9_dX8_init_0_0.1 2 (4, .aload_n 0, 1) rfl
theorem dX8_init_5 : decode cX8_init 5 = .ok (.bipush 40, 2) := dr9 dk9_dX8_init_0_0.1 3 (5, .bipush 40, 2) rfl
theorem dX8_init_7 : decode cX8_init 7 = .ok (.newarray .int, 2) := dr9 dk9_dX8_init_0_0.1 4 (7, .newarray .int, 2) rfl
theorem dX8_init_9 : decode cX8_init 9 = .ok (.putfield 9, 3) := dr9 dk9_dX8_init_0_0.1 5 (9, .putfield 9, 3) rfl
theorem dX8_init_12 : decode cX8_init 12 = .ok (.aload_n 0, 1) := dr9 dk9_dX8_init_0_0.1 6 (12, .aload_n 0, 1) rfl
theorem dX8_init_13 : decode cX8_init 13 = .ok (.bipush 40, 2) := dr9 dk9_dX8_init_0_0.1 7 (13, .bipush 40, 2) rfl
theorem dX8_init_15 : decode cX8_init 15 = .ok (.newarray .int, 2) := dr9 dk9_dX8_init_0_0.1 8 (15, .newarray .int, 2) rfl
theorem dX8_init_17 : decode cX8_init 17 = .ok (.putfield 15, 3) := dr9 dk9_dX8_init_0_0.1 9 (17, .putfield 15, 3) rfl
theorem dX8_init_20 : decode cX8_init 20 = .ok (.aload_n 0, 1) := dr9 dk9_dX8_init_0_0.1 10 (20, .aload_n 0, 1) rfl
theorem dX8_init_21 : decode cX8_init 21 = .ok (.bipush 40, 2) := dr9 dk9_dX8_init_0_0.1 11 (21, .bipush 40, 2) rfl
theorem dX8_init_23 : decode cX8_init 23 = .ok (.newarray .boolean, 2) := dr9 dk9_dX8_init_0_0.1 12 (23, .newarray .boolean, 2) rfl
theorem dX8_init_25 : decode cX8_init 25 = .ok (.putfield 18, 3) := dr9 dk9_dX8_init_0_0.1 13 (25, .putfield 18, 3) rfl
theorem dX8_init_28 : decode cX8_init 28 = .ok (.aload_n 0, 1) := dr9 dk9_dX8_init_0_0.1 14 (28, .aload_n 0, 1) rfl
theorem dX8_init_29 : decode cX8_init 29 = .ok (.bipush 40, 2) := dr9 dk9_dX8_init_0_0.1 15 (29, .bipush 40, 2) rfl
theorem dX8_init_31 : decode cX8_init 31 = .ok (.newarray .int, 2) := dr9 dk9_dX8_init_0_0.1 16 (31, .newarray .int, 2) rfl
theorem dX8_init_33 : decode cX8_init 33 = .ok (.putfield 22, 3) := dr9 dk9_dX8_init_0_0.1 17 (33, .putfield 22, 3) rfl
theorem dX8_init_36 : decode cX8_init 36 = .ok (.aload_n 0, 1) := dr9 dk9_dX8_init_0_0.1 18 (36, .aload_n 0, 1) rfl
theorem dX8_init_37 : decode cX8_init 37 = .ok (.sipush 960, 3) := dr9 dk9_dX8_init_0_0.1 19 (37, .sipush 960, 3) rfl
theorem dX8_init_40 : decode cX8_init 40 = .ok (.newarray .int, 2) := dr9 dk9_dX8_init_0_0.1 20 (40, .newarray .int, 2) rfl
theorem dX8_init_42 : decode cX8_init 42 = .ok (.putfield 25, 3) := dr9 dk9_dX8_init_0_0.1 21 (42, .putfield 25, 3) rfl
theorem dX8_init_45 : decode cX8_init 45 = .ok (.aload_n 0, 1) := dr9 dk9_dX8_init_0_0.1 22 (45, .aload_n 0, 1) rfl
theorem dX8_init_46 : decode cX8_init 46 = .ok (.sipush 300, 3) := dr9 dk9_dX8_init_0_0.1 23 (46, .sipush 300, 3) rfl
theorem dX8_init_49 : decode cX8_init 49 = .ok (.newarray .int, 2) := dr9 dk9_dX8_init_0_0.2.1 0 (49, .newarray .int, 2) rfl
theorem dX8_init_51 : decode cX8_init 51 = .ok (.putfield 28, 3) := dr9 dk9_dX8_init_0_0.2.1 1 (51, .putfield 28, 3) rfl
theorem dX8_init_54 : decode cX8_init 54 = .ok (.aload_n 0, 1) := dr9 dk9_dX8_init_0_0.2.1 2 (54, .aload_n 0, 1) rfl
theorem dX8_init_55 : decode cX8_init 55 = .ok (.sipush 300, 3) := dr9 dk9_dX8_init_0_0.2.1 3 (55, .sipush 300, 3) rfl
theorem dX8_init_58 : decode cX8_init 58 = .ok (.newarray .int, 2) := dr9 dk9_dX8_init_0_0.2.1 4 (58, .newarray .int, 2) rfl
theorem dX8_init_60 : decode cX8_init 60 = .ok (.putfield 31, 3) := dr9 dk9_dX8_init_0_0.2.1 5 (60, .putfield 31, 3) rfl
theorem dX8_init_63 : decode cX8_init 63 = .ok (.aload_n 0, 1) := dr9 dk9_dX8_init_0_0.2.1 6 (63, .aload_n 0, 1) rfl
theorem dX8_init_64 : decode cX8_init 64 = .ok (.sipush 300, 3) := dr9 dk9_dX8_init_0_0.2.1 7 (64, .sipush 300, 3) rfl
theorem dX8_init_67 : decode cX8_init 67 = .ok (.newarray .int, 2) := dr9 dk9_dX8_init_0_0.2.1 8 (67, .newarray .int, 2) rfl
theorem dX8_init_69 : decode cX8_init 69 = .ok (.putfield 34, 3) := dr9 dk9_dX8_init_0_0.2.1 9 (69, .putfield 34, 3) rfl
theorem dX8_init_72 : decode cX8_init 72 = .ok (.aload_n 0, 1) := dr9 dk9_dX8_init_0_0.2.1 10 (72, .aload_n 0, 1) rfl
theorem dX8_init_73 : decode cX8_init 73 = .ok (.sipush 300, 3) := dr9 dk9_dX8_init_0_0.2.1 11 (73, .sipush 300, 3) rfl
theorem dX8_init_76 : decode cX8_init 76 = .ok (.newarray .int, 2) := dr9 dk9_dX8_init_0_0.2.1 12 (76, .newarray .int, 2) rfl
theorem dX8_init_78 : decode cX8_init 78 = .ok (.putfield 37, 3) := dr9 dk9_dX8_init_0_0.2.1 13 (78, .putfield 37, 3) rfl
theorem dX8_init_81 : decode cX8_init 81 = .ok (.aload_n 0, 1) := dr9 dk9_dX8_init_0_0.2.1 14 (81, .aload_n 0, 1) rfl
theorem dX8_init_82 : decode cX8_init 82 = .ok (.sipush 2400, 3) := dr9 dk9_dX8_init_0_0.2.1 15 (82, .sipush 2400, 3) rfl
theorem dX8_init_85 : decode cX8_init 85 = .ok (.newarray .int, 2) := dr9 dk9_dX8_init_0_0.2.1 16 (85, .newarray .int, 2) rfl
theorem dX8_init_87 : decode cX8_init 87 = .ok (.putfield 40, 3) := dr9 dk9_dX8_init_0_0.2.1 17 (87, .putfield 40, 3) rfl
theorem dX8_init_90 : decode cX8_init 90 = .ok (.aload_n 0, 1) := dr9 dk9_dX8_init_0_0.2.1 18 (90, .aload_n 0, 1) rfl
theorem dX8_init_91 : decode cX8_init 91 = .ok (.sipush 512, 3) := dr9 dk9_dX8_init_0_0.2.1 19 (91, .sipush 512, 3) rfl
theorem dX8_init_94 : decode cX8_init 94 = .ok (.newarray .int, 2) := dr9 dk9_dX8_init_0_0.2.1 20 (94, .newarray .int, 2) rfl
theorem dX8_init_96 : decode cX8_init 96 = .ok (.putfield 43, 3) := dr9 dk9_dX8_init_0_0.2.1 21 (96, .putfield 43, 3) rfl
theorem dX8_init_99 : decode cX8_init 99 = .ok (.aload_n 0, 1) := dr9 dk9_dX8_init_0_0.2.1 22 (99, .aload_n 0, 1) rfl
theorem dX8_init_100 : decode cX8_init 100 = .ok (.sipush 512, 3) := dr9 dk9_dX8_init_0_0.2.1 23 (100, .sipush 512, 3) rfl
theorem dX8_init_103 : decode cX8_init 103 = .ok (.newarray .int, 2) := dr9 dk9_dX8_init_0_0.2.2 0 (103, .newarray .int, 2) rfl
theorem dX8_init_105 : decode cX8_init 105 = .ok (.putfield 46, 3) := dr9 dk9_dX8_init_0_0.2.2 1 (105, .putfield 46, 3) rfl
theorem dX8_init_108 : decode cX8_init 108 = .ok (.aload_n 0, 1) := dr9 dk9_dX8_init_0_0.2.2 2 (108, .aload_n 0, 1) rfl
theorem dX8_init_109 : decode cX8_init 109 = .ok (.getfield 25, 3) := dr9 dk9_dX8_init_0_0.2.2 3 (109, .getfield 25, 3) rfl
theorem dX8_init_112 : decode cX8_init 112 = .ok (.iconst (-1), 1) := dr9 dk9_dX8_init_0_0.2.2 4 (112, .iconst (-1), 1) rfl
theorem dX8_init_113 : decode cX8_init 113 = .ok (.invokestatic 49, 3) := dr9 dk9_dX8_init_0_0.2.2 5 (113, .invokestatic 49, 3) rfl
theorem dX8_init_116 : decode cX8_init 116 = .ok (.aload_n 0, 1) := dr9 dk9_dX8_init_0_0.2.2 6 (116, .aload_n 0, 1) rfl
theorem dX8_init_117 : decode cX8_init 117 = .ok (.getfield 18, 3) := dr9 dk9_dX8_init_0_0.2.2 7 (117, .getfield 18, 3) rfl
theorem dX8_init_120 : decode cX8_init 120 = .ok (.iconst 0, 1) := dr9 dk9_dX8_init_0_0.2.2 8 (120, .iconst 0, 1) rfl
theorem dX8_init_121 : decode cX8_init 121 = .ok (.iconst 1, 1) := dr9 dk9_dX8_init_0_0.2.2 9 (121, .iconst 1, 1) rfl
theorem dX8_init_122 : decode cX8_init 122 = .ok (.bastore, 1) := dr9 dk9_dX8_init_0_0.2.2 10 (122, .bastore, 1) rfl
theorem dX8_init_123 : decode cX8_init 123 = .ok (.aload_n 0, 1) := dr9 dk9_dX8_init_0_0.2.2 11 (123, .aload_n 0, 1) rfl
theorem dX8_init_124 : decode cX8_init 124 = .ok (.iconst 1, 1) := dr9 dk9_dX8_init_0_0.2.2 12 (124, .iconst 1, 1) rfl
theorem dX8_init_125 : decode cX8_init 125 = .ok (.putfield 55, 3) := dr9 dk9_dX8_init_0_0.2.2 13 (125, .putfield 55, 3) rfl
theorem dX8_init_128 : decode cX8_init 128 = .ok (.return_, 1) := dr9 dk9_dX8_init_0_0.2.2 14 (128, .return_, 1) rfl
theorem dk9_dX9_init_0_0 : dOk cX9_init [(0, .aload_n 0, 1), (1, .invokespecial 3, 3), (4, .aload_n 0, 1), (5, .sipush 4000, 3), (8, .newarray .byte, 2), (10, .putfield 9, 3), (13, .aload_n 0, 1), (14, .bipush 28, 2), (16, .newarray .long, 2), (18, .putfield 15, 3), (21, .aload_n 0, 1), (22, .sipush 4001, 3), (25, .newarray .int, 2), (27, .putfield 19, 3), (30, .aload_n 0, 1), (31, .sipush 4001, 3), (34, .newarray .int, 2), (36, .putfield 23, 3), (39, .aload_n 0, 1), (40, .sipush 4001, 3), (43, .newarray .long, 2), (45, .putfield 26, 3), (48, .iconst 0, 1), (49, .istore_n 1, 1)] = true ∧ dOk cX9_init [(50, .iconst 0, 1), (51, .istore_n 2, 1), (52, .iload_n 2, 1), (53, .ldc 29, 2), (55, .invokevirtual 31, 3), (58, .if_icmp .ge 56, 3), (114, .return_, 1), (61, .iload_n 1, 1), (62, .bipush 28, 2), (64, .if_icmp .ge 50, 3), (67, .ldc 29, 2), (69, .iload_n 2, 1), (70, .invokevirtual 37, 3), (73, .istore_n 3, 1), (74, .iload_n 3, 1), (75, .bipush 32, 2), (77, .if_icmp .ne 9, 3), (86, .aload_n 0, 1), (87, .getfield 15, 3), (90, .iload_n 1, 1), (91, .aload_n 0, 1), (92, .getfield 15, 3), (95, .iload_n 1, 1), (96, .laload, 1)] = true ∧ dOk cX9_init [(97, .ldc2_w 41, 3), (100, .lmul, 1), (101, .iload_n 3, 1), (102, .invokestatic 43, 3), (105, .i2l, 1), (106, .ladd, 1), (107, .lastore, 1), (108, .iinc 2 1, 3), (111, .goto (-59), 3), (80, .iinc 1 1, 3), (83, .goto 25, 3)] = true := by decide +kernel
theorem dX9_init_0 : decode cX9_init 0 = .ok (.aload_n 0, 1) := dr9 dk9_dX9_init_0_0.1 0 (0, .aload_n 0, 1) rfl
theorem dX9_init_1 : decode cX9_init 1 = .ok (.invokespecial 3, 3) := dr9 dk9_dX9_init_0_0.1 1 (1, .invokespecial 3, 3) rfl
theorem dX9_init_4 : decode cX9_init 4 = .ok (.aload_n 0, 1) := dr9 dk9_dX9_init_0_0.1 2 (4, .aload_n 0, 1) rfl
theorem dX9_init_5 : decode cX9_init 5 = .ok (.sipush 4000, 3) := dr9 dk9_dX9_init_0_0.1 3 (5, .sipush 4000, 3) rfl
theorem dX9_init_8 : decode cX9_init 8 = .ok (.newarray .byte, 2) := dr9 dk9_dX9_init_0_0.1 4 (8, .newarray .byte, 2) rfl
theorem dX9_init_10 : decode cX9_init 10 = .ok (.putfield 9, 3) := dr9 dk9_dX9_init_0_0.1 5 (10, .putfield 9, 3) rfl
theorem dX9_init_13 : decode cX9_init 13 = .ok (.aload_n 0, 1) := dr9 dk9_dX9_init_0_0.1 6 (13, .aload_n 0, 1) rfl
theorem dX9_init_14 : decode cX9_init 14 = .ok (.bipush 28, 2) := dr9 dk9_dX9_init_0_0.1 7 (14, .bipush 28, 2) rfl
theorem dX9_init_16 : decode cX9_init 16 = .ok (.newarray .long, 2) := dr9 dk9_dX9_init_0_0.1 8 (16, .newarray .long, 2) rfl
theorem dX9_init_18 : decode cX9_init 18 = .ok (.putfield 15, 3) := dr9 dk9_dX9_init_0_0.1 9 (18, .putfield 15, 3) rfl
theorem dX9_init_21 : decode cX9_init 21 = .ok (.aload_n 0, 1) := dr9 dk9_dX9_init_0_0.1 10 (21, .aload_n 0, 1) rfl
theorem dX9_init_22 : decode cX9_init 22 = .ok (.sipush 4001, 3) := dr9 dk9_dX9_init_0_0.1 11 (22, .sipush 4001, 3) rfl
theorem dX9_init_25 : decode cX9_init 25 = .ok (.newarray .int, 2) := dr9 dk9_dX9_init_0_0.1 12 (25, .newarray .int, 2) rfl
theorem dX9_init_27 : decode cX9_init 27 = .ok (.putfield 19, 3) := dr9 dk9_dX9_init_0_0.1 13 (27, .putfield 19, 3) rfl
theorem dX9_init_30 : decode cX9_init 30 = .ok (.aload_n 0, 1) := dr9 dk9_dX9_init_0_0.1 14 (30, .aload_n 0, 1) rfl
theorem dX9_init_31 : decode cX9_init 31 = .ok (.sipush 4001, 3) := dr9 dk9_dX9_init_0_0.1 15 (31, .sipush 4001, 3) rfl
theorem dX9_init_34 : decode cX9_init 34 = .ok (.newarray .int, 2) := dr9 dk9_dX9_init_0_0.1 16 (34, .newarray .int, 2) rfl
theorem dX9_init_36 : decode cX9_init 36 = .ok (.putfield 23, 3) := dr9 dk9_dX9_init_0_0.1 17 (36, .putfield 23, 3) rfl
theorem dX9_init_39 : decode cX9_init 39 = .ok (.aload_n 0, 1) := dr9 dk9_dX9_init_0_0.1 18 (39, .aload_n 0, 1) rfl
theorem dX9_init_40 : decode cX9_init 40 = .ok (.sipush 4001, 3) := dr9 dk9_dX9_init_0_0.1 19 (40, .sipush 4001, 3) rfl
theorem dX9_init_43 : decode cX9_init 43 = .ok (.newarray .long, 2) := dr9 dk9_dX9_init_0_0.1 20 (43, .newarray .long, 2) rfl
theorem dX9_init_45 : decode cX9_init 45 = .ok (.putfield 26, 3) := dr9 dk9_dX9_init_0_0.1 21 (45, .putfield 26, 3) rfl
theorem dX9_init_48 : decode cX9_init 48 = .ok (.iconst 0, 1) := dr9 dk9_dX9_init_0_0.1 22 (48, .iconst 0, 1) rfl
theorem dX9_init_49 : decode cX9_init 49 = .ok (.istore_n 1, 1) := dr9 dk9_dX9_init_0_0.1 23 (49, .istore_n 1, 1) rfl
theorem dX9_init_50 : decode cX9_init 50 = .ok (.iconst 0, 1) := dr9 dk9_dX9_init_0_0.2.1 0 (50, .iconst 0, 1) rfl
theorem dX9_init_51 : decode cX9_init 51 = .ok (.istore_n 2, 1) := dr9 dk9_dX9_init_0_0.2.1 1 (51, .istore_n 2, 1) rfl
theorem dX9_init_52 : decode cX9_init 52 = .ok (.iload_n 2, 1) := dr9 dk9_dX9_init_0_0.2.1 2 (52, .iload_n 2, 1) rfl
theorem dX9_init_53 : decode cX9_init 53 = .ok (.ldc 29, 2) := dr9 dk9_dX9_init_0_0.2.1 3 (53, .ldc 29, 2) rfl
theorem dX9_init_55 : decode cX9_init 55 = .ok (.invokevirtual 31, 3) := dr9 dk9_dX9_init_0_0.2.1 4 (55, .invokevirtual 31, 3) rfl
theorem dX9_init_58 : decode cX9_init 58 = .ok (.if_icmp .ge 56, 3) := dr9 dk9_dX9_init_0_0.2.1 5 (58, .if_icmp .ge 56, 3) rfl
theorem dX9_init_114 : decode cX9_init 114 = .ok (.return_, 1) := dr9 dk9_dX9_init_0_0.2.1 6 (114, .return_, 1) rfl
theorem dX9_init_61 : decode cX9_init 61 = .ok (.iload_n 1, 1) := dr9 dk9_dX9_init_0_0.2.1 7 (61, .iload_n 1, 1) rfl
theorem dX9_init_62 : decode cX9_init 62 = .ok (.bipush 28, 2) := dr9 dk9_dX9_init_0_0.2.1 8 (62, .bipush 28, 2) rfl
theorem dX9_init_64 : decode cX9_init 64 = .ok (.if_icmp .ge 50, 3) := dr9 dk9_dX9_init_0_0.2.1 9 (64, .if_icmp .ge 50, 3) rfl
theorem dX9_init_67 : decode cX9_init 67 = .ok (.ldc 29, 2) := dr9 dk9_dX9_init_0_0.2.1 10 (67, .ldc 29, 2) rfl
theorem dX9_init_69 : decode cX9_init 69 = .ok (.iload_n 2, 1) := dr9 dk9_dX9_init_0_0.2.1 11 (69, .iload_n 2, 1) rfl
theorem dX9_init_70 : decode cX9_init 70 = .ok (.invokevirtual 37, 3) := dr9 dk9_dX9_init_0_0.2.1 12 (70, .invokevirtual 37, 3) rfl
theorem dX9_init_73 : decode cX9_init 73 = .ok (.istore_n 3, 1) := dr9 dk9_dX9_init_0_0.2.1 13 (73, .istore_n 3, 1) rfl
theorem dX9_init_74 : decode cX9_init 74 = .ok (.iload_n 3, 1) := dr9 dk9_dX9_init_0_0.2.1 14 (74, .iload_n 3, 1) rfl
theorem dX9_init_75 : decode cX9_init 75 = .ok (.bipush 32, 2) := dr9 dk9_dX9_init_0_0.2.1 15 (75, .bipush 32, 2) rfl
theorem dX9_init_77 : decode cX9_init 77 = .ok (.if_icmp .ne 9, 3) := dr9 dk9_dX9_init_0_0.2.1 16 (77, .if_icmp .ne 9, 3) rfl
theorem dX9_init_86 : decode cX9_init 86 = .ok (.aload_n 0, 1) := dr9 dk9_dX9_init_0_0.2.1 17 (86, .aload_n 0, 1) rfl
theorem dX9_init_87 : decode cX9_init 87 = .ok (.getfield 15, 3) := dr9 dk9_dX9_init_0_0.2.1 18 (87, .getfield 15, 3) rfl
theorem dX9_init_90 : decode cX9_init 90 = .ok (.iload_n 1, 1) := dr9 dk9_dX9_init_0_0.2.1 19 (90, .iload_n 1, 1) rfl
theorem dX9_init_91 : decode cX9_init 91 = .ok (.aload_n 0, 1) := dr9 dk9_dX9_init_0_0.2.1 20 (91, .aload_n 0, 1) rfl
theorem dX9_init_92 : decode cX9_init 92 = .ok (.getfield 15, 3) := dr9 dk9_dX9_init_0_0.2.1 21 (92, .getfield 15, 3) rfl
theorem dX9_init_95 : decode cX9_init 95 = .ok (.iload_n 1, 1) := dr9 dk9_dX9_init_0_0.2.1 22 (95, .iload_n 1, 1) rfl
theorem dX9_init_96 : decode cX9_init 96 = .ok (.laload, 1) := dr9 dk9_dX9_init_0_0.2.1 23 (96, .laload, 1) rfl
theorem dX9_init_97 : decode cX9_init 97 = .ok (.ldc2_w 41, 3) := dr9 dk9_dX9_init_0_0.2.2 0 (97, .ldc2_w 41, 3) rfl
theorem dX9_init_100 : decode cX9_init 100 = .ok (.lmul, 1) := dr9 dk9_dX9_init_0_0.2.2 1 (100, .lmul, 1) rfl
theorem dX9_init_101 : decode cX9_init 101 = .ok (.iload_n 3, 1) := dr9 dk9_dX9_init_0_0.2.2 2 (101, .iload_n 3, 1) rfl
theorem dX9_init_102 : decode cX9_init 102 = .ok (.invokestatic 43, 3) := dr9 dk9_dX9_init_0_0.2.2 3 (102, .invokestatic 43, 3) rfl
theorem dX9_init_105 : decode cX9_init 105 = .ok (.i2l, 1) := dr9 dk9_dX9_init_0_0.2.2 4 (105, .i2l, 1) rfl
theorem dX9_init_106 : decode cX9_init 106 = .ok (.ladd, 1) := dr9 dk9_dX9_init_0_0.2.2 5 (106, .ladd, 1) rfl
theorem dX9_init_107 : decode cX9_init 107 = .ok (.lastore, 1) := dr9 dk9_dX9_init_0_0.2.2 6 (107, .lastore, 1) rfl
theorem dX9_init_108 : decode cX9_init 108 = .ok (.iinc 2 1, 3) := dr9 dk9_dX9_init_0_0.2.2 7 (108, .iinc 2 1, 3) rfl
theorem dX9_init_111 : decode cX9_init 111 = .ok (.goto (-59), 3) := dr9 dk9_dX9_init_0_0.2.2 8 (111, .goto (-59), 3) rfl
theorem dX9_init_80 : decode cX9_init 80 = .ok (.iinc 1 1, 3) := dr9 dk9_dX9_init_0_0.2.2 9 (80, .iinc 1 1, 3) rfl
theorem dX9_init_83 : decode cX9_init 83 = .ok (.goto 25, 3) := dr9 dk9_dX9_init_0_0.2.2 10 (83, .goto 25, 3) rfl
abbrev r_c_fillN : Room := { frames := 0, cells := 0, slots := 0, locals := 0 }
abbrev q_c_fillN (D : va_G) (a0 : Nat) (kA : ClassId) (N : Nat) (f : Nat → Int32) (pv : Int32) (A : Nat → Prop) : Array Value → State → Outcome → State → Prop := va_Qv (fun (u : Nat → Int32) => ∀ q : Nat, u q = if q < N then pv else f q) (fun u t => gq D A ((fun (u : Nat → Int32) => [(a0, .inl (kA, N, .inl (u)))]) u) ((fun (u : Nat → Int32) => ([(kA, .int)] : List (ClassId × FieldType))) u) t) A
set_option maxHeartbeats 4000000 in
set_option maxRecDepth 100000 in
theorem c_fillN (l : Launch) (D : va_G) (ks : KS) (sz : Nat) (a0 : Nat) (kA : ClassId) (N : Nat) (f : Nat → Int32) (pv : Int32) (hN : N < 2 ^ 31) : Met l yJ7_fill_53178 (Cond.code yJ7_fill_53178 cJ7_fill_53178 4 none :: GW) r_c_fillN (va_Pc [.ref a0, .int pv] (gp D ks [(a0, .inl (kA, N, .inl (f)))] [(kA, .int)] sz)) (q_c_fillN D a0 kA N f pv (va_A [(a0, .inl (kA, N, .inl (f)))] sz)) 0 0 (va_A [(a0, .inl (kA, N, .inl (f)))] sz) := by
  refine g_met (q_c_fillN D a0 kA N f pv) (by decide) (Nat.le_of_ble_eq_true rfl) ?_
  intro p e s m below meth c A ls H locs hx hb hr hml hown hg hlocks hin hnw hgk hP hK hD hS hA hl
  have hown : s.vm.findClass RJ7 = some m.cls := hown
  have hl : lv_has ls 4 [(0, .ref a0), (1, .int pv)] := hl
  refine lv_iconst (v := 0) hx hb dJ7_fill_53178_0 (by decide) ?_
  refine lv_istore_n (lv' := [(2, .int 0), (0, .ref a0), (1, .int pv)]) hx hb dJ7_fill_53178_1 rfl hl (by decide) rfl (fun ls hl => ?_)
  refine lv_aload_n hx hb dJ7_fill_53178_2 rfl (lv_at hl 1 rfl) ?_
  refine va_alen (D := D) (v := (nI N)) hx hb hK hP 0 0 rfl rfl rfl dJ7_fill_53178_3 ?_
  refine lv_istore_n (lv' := [(3, .int (nI N)), (2, .int 0), (0, .ref a0), (1, .int pv)]) hx hb dJ7_fill_53178_4 rfl hl (by decide) rfl (fun ls hl => ?_)
  refine W.widen (k := 0) (n := 0) (Nat.le_of_ble_eq_true rfl) (Nat.le_of_ble_eq_true rfl) ?_
  have lp1 : ∀ (n : Nat) (i : Nat) (g : Nat → Int32) (H : Heap) (locs : List Loc) (ls : Array Slot), i ≤ N → (∀ q : Nat, g q = if q < i then pv else f q) → N < i + n → va_P D vwCl [(a0, .inl (kA, N, .inl (g)))] H → va_D A [(a0, .inl (kA, N, .inl (g)))] → va_S A s.heap H locs → lv_has ls 4 [(3, .int (nI N)), (2, .int (nI i)), (0, .ref a0), (1, .int pv)] → W p l e r_c_fillN s m ([.ref a0, .int pv] : List Value).toArray below meth c H locs (0) (0) (MQ below (q_c_fillN D a0 kA N f pv A) ([.ref a0, .int pv] : List Value).toArray s 0 0 A) (F0 m 5 ls []) := by
    intro n
    induction n with
    | zero =>
      intro i g H locs ls hi hg9 hn hP hD hS hl
      exact absurd hn (by omega)
    | succ n ih =>
      intro i g H locs ls hi hg9 hn hP hD hS hl
      refine lv_iload_n hx hb dJ7_fill_53178_5 rfl (lv_at hl 1 rfl) ?_
      refine lv_iload_n hx hb dJ7_fill_53178_6 rfl (lv_at hl 0 rfl) ?_
      refine lv_icmp_ge (tgt := 20) hx hb dJ7_fill_53178_7 (by decide) (fun c2 => ?_) (fun c2 => ?_)
      · skip
        have gc2 : N ≤ i := g_ge_ge (L := N) (by omega) (by omega) c2
        refine W.widen (k := 0) (n := 0) (Nat.le_of_ble_eq_true rfl) (Nat.le_of_ble_eq_true rfl) ?_
        have hP9 := hP.sub (ws' := [(a0, .inl (kA, N, .inl (g)))]) [0] rfl
        have hD9 := hD.sub (ws' := [(a0, .inl (kA, N, .inl (g)))]) [0] (by decide) rfl
        have hK9 := hK.sub (tys' := [(kA, .int)]) [0] rfl
        exact W.vret hx hb hr (fun t ht hW => ⟨⟨(g), rfl, (fun q => by have e9 : i = N := (by omega); rw [e9] at hg9; exact hg9 q), by rw [ht]; exact hP9, va_K.moved hW.alike hK9, hD9⟩, hS.F ht⟩) hS.2.2 dJ7_fill_53178_20
      · skip
        have gc2 : i < N := g_lt_ge (L := N) (by omega) (by omega) c2
        refine lv_aload_n hx hb dJ7_fill_53178_10 rfl (lv_at hl 2 rfl) ?_
        refine lv_iload_n hx hb dJ7_fill_53178_11 rfl (lv_at hl 1 rfl) ?_
        refine lv_iload_n hx hb dJ7_fill_53178_12 rfl (lv_at hl 3 rfl) ?_
        refine va_iast (D := D) (i := (nI i)) (x := pv) hx hb hK hP hD hS 0 0 rfl rfl (vp_in_nI (by omega) (by omega)) dJ7_fill_53178_13 (fun H locs hP hD hS => ?_)
        have hP : va_P D vwCl [(a0, .inl (kA, N, .inl (upd g (Int32.toNatClampNeg (nI i)) pv)))] H := hP
        have hD : va_D A [(a0, .inl (kA, N, .inl (upd g (Int32.toNatClampNeg (nI i)) pv)))] := hD
        obtain ⟨f3, hf3⟩ : ∃ z, z = upd g (Int32.toNatClampNeg (nI i)) pv := ⟨_, rfl⟩
        rw [← hf3] at hP hD
        refine lv_iinc (v := (nI (i + 1))) (lv' := [(2, .int (nI (i + 1))), (3, .int (nI N)), (0, .ref a0), (1, .int pv)]) hx hb dJ7_fill_53178_14 hl (k := 1) rfl (nI_1 _) (by decide) rfl (fun ls hl => ?_)
        refine lv_goto (tgt := 5) hx hb dJ7_fill_53178_17 (by decide) ?_
        exact ih (i + 1) f3 H locs ls (by omega) (fill_up hg9 (by rw [hf3, nI_clamp (by omega)])) (by omega) (hP.sub [0] rfl) (hD.sub [0] (by decide) rfl) hS (lv_sub hl [1, 0, 2, 3] rfl)
  exact lp1 (N + 1) 0 f H locs ls (Nat.zero_le _) (fun q => by rw [if_neg (by omega)]) (by (first | exact om_9f6c8d73d61d | omega)) hP hD hS hl
abbrev r_c_Names_init24 : Room := { frames := 1, cells := 1, slots := 24, locals := 20 }
abbrev q_c_Names_init24 (D : va_G) (h0 : Nat) (A : Nat → Prop) : Array Value → State → Outcome → State → Prop := va_Qv (fun (u : Nat × ClassId) => True) (fun u t => gq D A ((fun (u : Nat × ClassId) => [(h0, .inr (6, [.ref u.1, .int 0])), (u.1, .inl (u.2, 24, .inr (.inl (fun _ => 0))))]) u) ((fun (u : Nat × ClassId) => ([(u.2, .long)] : List (ClassId × FieldType))) u) t) A
set_option maxHeartbeats 4000000 in
set_option maxRecDepth 100000 in
theorem c_Names_init24 (l : Launch) (D : va_G) (ks : KS) (sz : Nat) (h0 : Nat) : Met l yX6_init (Cond.code yX6_init cX6_init 2 none :: GW) r_c_Names_init24 (va_Pc [.ref h0, .int 24] (gp D ks [(h0, .inr (6, [.null, .int 0]))] [] sz)) (q_c_Names_init24 D h0 (va_A [(h0, .inr (6, [.null, .int 0]))] sz)) 1 24 (va_A [(h0, .inr (6, [.null, .int 0]))] sz) := by
  refine g_met (q_c_Names_init24 D h0) (by decide) (Nat.le_of_ble_eq_true rfl) ?_
  intro p e s m below meth c A ls H locs hx hb hr hml hown hg hlocks hin hnw hgk hP hK hD hS hA hl
  have hown : s.vm.findClass RX6 = some m.cls := hown
  have hin : meth.name = "<init>" := hin
  have hl : lv_has ls 2 [(0, .ref h0), (1, .int 24)] := hl
  refine lv_aload_n hx hb dX6_init_0 rfl (lv_at hl 0 rfl) ?_
  refine W.objInit hx hb hown (hg _ w478) (hg _ w188) (hg _ wobj) rfl (by rw [hml]; exact hl.1) rfl dX6_init_1 (Nat.le_of_ble_eq_true rfl) (Nat.le_of_ble_eq_true rfl) ?_
  refine W.eq (g2 := F0 m 4 ls []) rfl ?_
  refine lv_aload_n hx hb dX6_init_4 rfl (lv_at hl 0 rfl) ?_
  refine lv_iload_n hx hb dX6_init_5 rfl (lv_at hl 1 rfl) ?_
  refine lv_if_le (tgt := 13) hx hb dX6_init_6 (by decide) (fun q => absurd q (by decide)) (fun _ => ?_)
  refine lv_iload_n hx hb dX6_init_9 rfl (lv_at hl 1 rfl) ?_
  refine lv_goto (tgt := 14) hx hb dX6_init_10 (by decide) ?_
  refine va_newa (D := D) (atype := .long) (ty := .long) (n := 24) (N' := 24) (a0 := (24, .inr (.inl (fun _ => 0)))) hx hb (hg _ w296) rfl hK hP hD hS hA (fun _ => rfl) (by decide) (by decide) (by decide) (Nat.le_of_ble_eq_true rfl) (Nat.le_of_ble_eq_true rfl) dX6_init_14 (fun q1 k2 H hK hP hD hS => ?_)
  have hP : va_P D vwCl [(h0, .inr (6, [.null, .int 0])), (q1, .inl (k2, 24, .inr (.inl (fun _ => 0))))] H := hP
  have hD : va_D A [(h0, .inr (6, [.null, .int 0])), (q1, .inl (k2, 24, .inr (.inl (fun _ => 0))))] := hD
  have hK : va_K D vwCl [(k2, .long)] s := hK
  refine va_putF (D := D) (ci := 6) (v := .ref q1) (ty := tyX6 0) (C := RX6) (T := TX6) (N := 2) hx hb hg inX6 tyX6 tyX6_ok nmX6 hown hK hP hD hS 0 rfl rfl 0 (by decide) (hg _ w479) (fun _ h9 => h9) rfl hin rfl (tyX6_ok 0 (by decide)) rfl rfl (Nat.le_of_ble_eq_true rfl) dX6_init_16 (fun H locs hP hD hS => ?_)
  have hP : va_P D vwCl [(h0, .inr (6, [.ref q1, .int 0])), (q1, .inl (k2, 24, .inr (.inl (fun _ => 0))))] H := hP
  have hD : va_D A [(h0, .inr (6, [.ref q1, .int 0])), (q1, .inl (k2, 24, .inr (.inl (fun _ => 0))))] := hD
  refine W.widen (k := 1) (n := 24) (Nat.le_of_ble_eq_true rfl) (Nat.le_of_ble_eq_true rfl) ?_
  have hP9 := hP.sub (ws' := [(h0, .inr (6, [.ref q1, .int 0])), (q1, .inl (k2, 24, .inr (.inl (fun _ => 0))))]) [0, 1] rfl
  have hD9 := hD.sub (ws' := [(h0, .inr (6, [.ref q1, .int 0])), (q1, .inl (k2, 24, .inr (.inl (fun _ => 0))))]) [0, 1] (by decide) rfl
  have hK9 := hK.sub (tys' := [(k2, .long)]) [0] rfl
  exact W.vret hx hb hr (fun t ht hW => ⟨⟨(q1, k2), rfl, (by first | rfl | trivial | assumption | decide), by rw [ht]; exact hP9, va_K.moved hW.alike hK9, hD9⟩, hS.F ht⟩) hS.2.2 dX6_init_19
abbrev r_c_Names_init12 : Room := { frames := 1, cells := 1, slots := 12, locals := 20 }
abbrev q_c_Names_init12 (D : va_G) (h0 : Nat) (A : Nat → Prop) : Array Value → State → Outcome → State → Prop := va_Qv (fun (u : Nat × ClassId) => True) (fun u t => gq D A ((fun (u : Nat × ClassId) => [(h0, .inr (6, [.ref u.1, .int 0])), (u.1, .inl (u.2, 12, .inr (.inl (fun _ => 0))))]) u) ((fun (u : Nat × ClassId) => ([(u.2, .long)] : List (ClassId × FieldType))) u) t) A
set_option maxHeartbeats 4000000 in
set_option maxRecDepth 100000 in
theorem c_Names_init12 (l : Launch) (D : va_G) (ks : KS) (sz : Nat) (h0 : Nat) : Met l yX6_init (Cond.code yX6_init cX6_init 2 none :: GW) r_c_Names_init12 (va_Pc [.ref h0, .int 12] (gp D ks [(h0, .inr (6, [.null, .int 0]))] [] sz)) (q_c_Names_init12 D h0 (va_A [(h0, .inr (6, [.null, .int 0]))] sz)) 1 12 (va_A [(h0, .inr (6, [.null, .int 0]))] sz) := by
  refine g_met (q_c_Names_init12 D h0) (by decide) (Nat.le_of_ble_eq_true rfl) ?_
  intro p e s m below meth c A ls H locs hx hb hr hml hown hg hlocks hin hnw hgk hP hK hD hS hA hl
  have hown : s.vm.findClass RX6 = some m.cls := hown
  have hin : meth.name = "<init>" := hin
  have hl : lv_has ls 2 [(0, .ref h0), (1, .int 12)] := hl
  refine lv_aload_n hx hb dX6_init_0 rfl (lv_at hl 0 rfl) ?_
  refine W.objInit hx hb hown (hg _ w478) (hg _ w188) (hg _ wobj) rfl (by rw [hml]; exact hl.1) rfl dX6_init_1 (Nat.le_of_ble_eq_true rfl) (Nat.le_of_ble_eq_true rfl) ?_
  refine W.eq (g2 := F0 m 4 ls []) rfl ?_
  refine lv_aload_n hx hb dX6_init_4 rfl (lv_at hl 0 rfl) ?_
  refine lv_iload_n hx hb dX6_init_5 rfl (lv_at hl 1 rfl) ?_
  refine lv_if_le (tgt := 13) hx hb dX6_init_6 (by decide) (fun q => absurd q (by decide)) (fun _ => ?_)
  refine lv_iload_n hx hb dX6_init_9 rfl (lv_at hl 1 rfl) ?_
  refine lv_goto (tgt := 14) hx hb dX6_init_10 (by decide) ?_
  refine va_newa (D := D) (atype := .long) (ty := .long) (n := 12) (N' := 12) (a0 := (12, .inr (.inl (fun _ => 0)))) hx hb (hg _ w296) rfl hK hP hD hS hA (fun _ => rfl) (by decide) (by decide) (by decide) (Nat.le_of_ble_eq_true rfl) (Nat.le_of_ble_eq_true rfl) dX6_init_14 (fun q1 k2 H hK hP hD hS => ?_)
  have hP : va_P D vwCl [(h0, .inr (6, [.null, .int 0])), (q1, .inl (k2, 12, .inr (.inl (fun _ => 0))))] H := hP
  have hD : va_D A [(h0, .inr (6, [.null, .int 0])), (q1, .inl (k2, 12, .inr (.inl (fun _ => 0))))] := hD
  have hK : va_K D vwCl [(k2, .long)] s := hK
  refine va_putF (D := D) (ci := 6) (v := .ref q1) (ty := tyX6 0) (C := RX6) (T := TX6) (N := 2) hx hb hg inX6 tyX6 tyX6_ok nmX6 hown hK hP hD hS 0 rfl rfl 0 (by decide) (hg _ w479) (fun _ h9 => h9) rfl hin rfl (tyX6_ok 0 (by decide)) rfl rfl (Nat.le_of_ble_eq_true rfl) dX6_init_16 (fun H locs hP hD hS => ?_)
  have hP : va_P D vwCl [(h0, .inr (6, [.ref q1, .int 0])), (q1, .inl (k2, 12, .inr (.inl (fun _ => 0))))] H := hP
  have hD : va_D A [(h0, .inr (6, [.ref q1, .int 0])), (q1, .inl (k2, 12, .inr (.inl (fun _ => 0))))] := hD
  refine W.widen (k := 1) (n := 12) (Nat.le_of_ble_eq_true rfl) (Nat.le_of_ble_eq_true rfl) ?_
  have hP9 := hP.sub (ws' := [(h0, .inr (6, [.ref q1, .int 0])), (q1, .inl (k2, 12, .inr (.inl (fun _ => 0))))]) [0, 1] rfl
  have hD9 := hD.sub (ws' := [(h0, .inr (6, [.ref q1, .int 0])), (q1, .inl (k2, 12, .inr (.inl (fun _ => 0))))]) [0, 1] (by decide) rfl
  have hK9 := hK.sub (tys' := [(k2, .long)]) [0] rfl
  exact W.vret hx hb hr (fun t ht hW => ⟨⟨(q1, k2), rfl, (by first | rfl | trivial | assumption | decide), by rw [ht]; exact hP9, va_K.moved hW.alike hK9, hD9⟩, hS.F ht⟩) hS.2.2 dX6_init_19
abbrev r_c_Names_init20 : Room := { frames := 1, cells := 1, slots := 20, locals := 20 }
abbrev q_c_Names_init20 (D : va_G) (h0 : Nat) (A : Nat → Prop) : Array Value → State → Outcome → State → Prop := va_Qv (fun (u : Nat × ClassId) => True) (fun u t => gq D A ((fun (u : Nat × ClassId) => [(h0, .inr (6, [.ref u.1, .int 0])), (u.1, .inl (u.2, 20, .inr (.inl (fun _ => 0))))]) u) ((fun (u : Nat × ClassId) => ([(u.2, .long)] : List (ClassId × FieldType))) u) t) A
set_option maxHeartbeats 4000000 in
set_option maxRecDepth 100000 in
theorem c_Names_init20 (l : Launch) (D : va_G) (ks : KS) (sz : Nat) (h0 : Nat) : Met l yX6_init (Cond.code yX6_init cX6_init 2 none :: GW) r_c_Names_init20 (va_Pc [.ref h0, .int 20] (gp D ks [(h0, .inr (6, [.null, .int 0]))] [] sz)) (q_c_Names_init20 D h0 (va_A [(h0, .inr (6, [.null, .int 0]))] sz)) 1 20 (va_A [(h0, .inr (6, [.null, .int 0]))] sz) := by
  refine g_met (q_c_Names_init20 D h0) (by decide) (Nat.le_of_ble_eq_true rfl) ?_
  intro p e s m below meth c A ls H locs hx hb hr hml hown hg hlocks hin hnw hgk hP hK hD hS hA hl
  have hown : s.vm.findClass RX6 = some m.cls := hown
  have hin : meth.name = "<init>" := hin
  have hl : lv_has ls 2 [(0, .ref h0), (1, .int 20)] := hl
  refine lv_aload_n hx hb dX6_init_0 rfl (lv_at hl 0 rfl) ?_
  refine W.objInit hx hb hown (hg _ w478) (hg _ w188) (hg _ wobj) rfl (by rw [hml]; exact hl.1) rfl dX6_init_1 (Nat.le_of_ble_eq_true rfl) (Nat.le_of_ble_eq_true rfl) ?_
  refine W.eq (g2 := F0 m 4 ls []) rfl ?_
  refine lv_aload_n hx hb dX6_init_4 rfl (lv_at hl 0 rfl) ?_
  refine lv_iload_n hx hb dX6_init_5 rfl (lv_at hl 1 rfl) ?_
  refine lv_if_le (tgt := 13) hx hb dX6_init_6 (by decide) (fun q => absurd q (by decide)) (fun _ => ?_)
  refine lv_iload_n hx hb dX6_init_9 rfl (lv_at hl 1 rfl) ?_
  refine lv_goto (tgt := 14) hx hb dX6_init_10 (by decide) ?_
  refine va_newa (D := D) (atype := .long) (ty := .long) (n := 20) (N' := 20) (a0 := (20, .inr (.inl (fun _ => 0)))) hx hb (hg _ w296) rfl hK hP hD hS hA (fun _ => rfl) (by decide) (by decide) (by decide) (Nat.le_of_ble_eq_true rfl) (Nat.le_of_ble_eq_true rfl) dX6_init_14 (fun q1 k2 H hK hP hD hS => ?_)
  have hP : va_P D vwCl [(h0, .inr (6, [.null, .int 0])), (q1, .inl (k2, 20, .inr (.inl (fun _ => 0))))] H := hP
  have hD : va_D A [(h0, .inr (6, [.null, .int 0])), (q1, .inl (k2, 20, .inr (.inl (fun _ => 0))))] := hD
  have hK : va_K D vwCl [(k2, .long)] s := hK
  refine va_putF (D := D) (ci := 6) (v := .ref q1) (ty := tyX6 0) (C := RX6) (T := TX6) (N := 2) hx hb hg inX6 tyX6 tyX6_ok nmX6 hown hK hP hD hS 0 rfl rfl 0 (by decide) (hg _ w479) (fun _ h9 => h9) rfl hin rfl (tyX6_ok 0 (by decide)) rfl rfl (Nat.le_of_ble_eq_true rfl) dX6_init_16 (fun H locs hP hD hS => ?_)
  have hP : va_P D vwCl [(h0, .inr (6, [.ref q1, .int 0])), (q1, .inl (k2, 20, .inr (.inl (fun _ => 0))))] H := hP
  have hD : va_D A [(h0, .inr (6, [.ref q1, .int 0])), (q1, .inl (k2, 20, .inr (.inl (fun _ => 0))))] := hD
  refine W.widen (k := 1) (n := 20) (Nat.le_of_ble_eq_true rfl) (Nat.le_of_ble_eq_true rfl) ?_
  have hP9 := hP.sub (ws' := [(h0, .inr (6, [.ref q1, .int 0])), (q1, .inl (k2, 20, .inr (.inl (fun _ => 0))))]) [0, 1] rfl
  have hD9 := hD.sub (ws' := [(h0, .inr (6, [.ref q1, .int 0])), (q1, .inl (k2, 20, .inr (.inl (fun _ => 0))))]) [0, 1] (by decide) rfl
  have hK9 := hK.sub (tys' := [(k2, .long)]) [0] rfl
  exact W.vret hx hb hr (fun t ht hW => ⟨⟨(q1, k2), rfl, (by first | rfl | trivial | assumption | decide), by rw [ht]; exact hP9, va_K.moved hW.alike hK9, hD9⟩, hS.F ht⟩) hS.2.2 dX6_init_19
abbrev r_c_Wrap_init : Room := { frames := 1, cells := 0, slots := 0, locals := 20 }
abbrev q_c_Wrap_init (D : va_G) (h0 : Nat) (A : Nat → Prop) : Array Value → State → Outcome → State → Prop := va_Qv (fun (_ : Unit) => True) (fun u t => gq D A ((fun (_ : Unit) => [(h0, .inr (10, [.int 0, .int 0, .int 0, .int 0, .int 0]))]) u) ((fun (_ : Unit) => ([] : List (ClassId × FieldType))) u) t) A
set_option maxHeartbeats 4000000 in
set_option maxRecDepth 100000 in
theorem c_Wrap_init (l : Launch) (D : va_G) (ks : KS) (sz : Nat) (h0 : Nat) : Met l yX10_init (Cond.code yX10_init cX10_init 1 none :: GW) r_c_Wrap_init (va_Pc [.ref h0] (gp D ks [(h0, .inr (10, [.int 0, .int 0, .int 0, .int 0, .int 0]))] [] sz)) (q_c_Wrap_init D h0 (va_A [(h0, .inr (10, [.int 0, .int 0, .int 0, .int 0, .int 0]))] sz)) 0 0 (va_A [(h0, .inr (10, [.int 0, .int 0, .int 0, .int 0, .int 0]))] sz) := by
  refine g_met (q_c_Wrap_init D h0) (by decide) (Nat.le_of_ble_eq_true rfl) ?_
  intro p e s m below meth c A ls H locs hx hb hr hml hown hg hlocks hin hnw hgk hP hK hD hS hA hl
  have hown : s.vm.findClass RX10 = some m.cls := hown
  have hin : meth.name = "<init>" := hin
  have hl : lv_has ls 1 [(0, .ref h0)] := hl
  refine lv_aload_n hx hb dX10_init_0 rfl (lv_at hl 0 rfl) ?_
  refine W.objInit hx hb hown (hg _ w574) (hg _ w188) (hg _ wobj) rfl (by rw [hml]; exact hl.1) rfl dX10_init_1 (Nat.le_of_ble_eq_true rfl) (Nat.le_of_ble_eq_true rfl) ?_
  refine W.eq (g2 := F0 m 4 ls []) rfl ?_
  refine W.widen (k := 0) (n := 0) (Nat.le_of_ble_eq_true rfl) (Nat.le_of_ble_eq_true rfl) ?_
  have hP9 := hP.sub (ws' := [(h0, .inr (10, [.int 0, .int 0, .int 0, .int 0, .int 0]))]) [0] rfl
  have hD9 := hD.sub (ws' := [(h0, .inr (10, [.int 0, .int 0, .int 0, .int 0, .int 0]))]) [0] (by decide) rfl
  have hK9 := hK.sub (tys' := []) [] rfl
  exact W.vret hx hb hr (fun t ht hW => ⟨⟨(), rfl, (by first | rfl | trivial | assumption | decide), by rw [ht]; exact hP9, va_K.moved hW.alike hK9, hD9⟩, hS.F ht⟩) hS.2.2 dX10_init_4
abbrev r_c_Component_init : Room := { frames := 1, cells := 4, slots := 44, locals := 20 }
abbrev q_c_Component_init (D : va_G) (h0 : Nat) (A : Nat → Prop) : Array Value → State → Outcome → State → Prop := va_Qv (fun (u : Nat × Nat × Nat × Nat × ClassId × ClassId × ClassId × ClassId) => True) (fun u t => gq D A ((fun (u : Nat × Nat × Nat × Nat × ClassId × ClassId × ClassId × ClassId) => [(h0, .inr (3, [.ref u.1, .ref u.2.1, .ref u.2.2.1, .ref u.2.2.2.1, .int 0, .int 0, .int 0, .int 0, .int 0, .int 0, .int 0, .int 0, .int 0])), (u.1, .inl (u.2.2.2.2.1, 8, .inl (fun _ => 0))), (u.2.1, .inl (u.2.2.2.2.2.1, 8, .inl (fun _ => 0))), (u.2.2.1, .inl (u.2.2.2.2.2.2.1, 8, .inl (fun _ => 0))), (u.2.2.2.1, .inl (u.2.2.2.2.2.2.2, 20, .inl (fun _ => 0)))]) u) ((fun (u : Nat × Nat × Nat × Nat × ClassId × ClassId × ClassId × ClassId) => ([(u.2.2.2.2.1, .int), (u.2.2.2.2.2.1, .int), (u.2.2.2.2.2.2.1, .int), (u.2.2.2.2.2.2.2, .int)] : List (ClassId × FieldType))) u) t) A
set_option maxHeartbeats 4000000 in
set_option maxRecDepth 100000 in
theorem c_Component_init (l : Launch) (D : va_G) (ks : KS) (sz : Nat) (h0 : Nat) : Met l yX3_init (Cond.code yX3_init cX3_init 1 none :: GW) r_c_Component_init (va_Pc [.ref h0] (gp D ks [(h0, .inr (3, [.null, .null, .null, .null, .int 0, .int 0, .int 0, .int 0, .int 0, .int 0, .int 0, .int 0, .int 0]))] [] sz)) (q_c_Component_init D h0 (va_A [(h0, .inr (3, [.null, .null, .null, .null, .int 0, .int 0, .int 0, .int 0, .int 0, .int 0, .int 0, .int 0, .int 0]))] sz)) 4 44 (va_A [(h0, .inr (3, [.null, .null, .null, .null, .int 0, .int 0, .int 0, .int 0, .int 0, .int 0, .int 0, .int 0, .int 0]))] sz) := by
  refine g_met (q_c_Component_init D h0) (by decide) (Nat.le_of_ble_eq_true rfl) ?_
  intro p e s m below meth c A ls H locs hx hb hr hml hown hg hlocks hin hnw hgk hP hK hD hS hA hl
  have hown : s.vm.findClass RX3 = some m.cls := hown
  have hin : meth.name = "<init>" := hin
  have hl : lv_has ls 1 [(0, .ref h0)] := hl
  refine lv_aload_n hx hb dX3_init_0 rfl (lv_at hl 0 rfl) ?_
  refine W.objInit hx hb hown (hg _ w498) (hg _ w188) (hg _ wobj) rfl (by rw [hml]; exact hl.1) rfl dX3_init_1 (Nat.le_of_ble_eq_true rfl) (Nat.le_of_ble_eq_true rfl) ?_
  refine W.eq (g2 := F0 m 4 ls []) rfl ?_
  refine lv_aload_n hx hb dX3_init_4 rfl (lv_at hl 0 rfl) ?_
  refine lv_bipush (v := 8) hx hb dX3_init_5 (by decide) ?_
  refine va_newa (D := D) (atype := .int) (ty := .int) (n := 8) (N' := 8) (a0 := (8, .inl (fun _ => 0))) hx hb (hg _ w297) rfl hK hP hD hS hA (fun _ => rfl) (by decide) (by decide) (by decide) (Nat.le_of_ble_eq_true rfl) (Nat.le_of_ble_eq_true rfl) dX3_init_7 (fun q1 k2 H hK hP hD hS => ?_)
  have hP : va_P D vwCl [(h0, .inr (3, [.null, .null, .null, .null, .int 0, .int 0, .int 0, .int 0, .int 0, .int 0, .int 0, .int 0, .int 0])), (q1, .inl (k2, 8, .inl (fun _ => 0)))] H := hP
  have hD : va_D A [(h0, .inr (3, [.null, .null, .null, .null, .int 0, .int 0, .int 0, .int 0, .int 0, .int 0, .int 0, .int 0, .int 0])), (q1, .inl (k2, 8, .inl (fun _ => 0)))] := hD
  have hK : va_K D vwCl [(k2, .int)] s := hK
  refine va_putF (D := D) (ci := 3) (v := .ref q1) (ty := tyX3 0) (C := RX3) (T := TX3) (N := 13) hx hb hg inX3 tyX3 tyX3_ok nmX3 hown hK hP hD hS 0 rfl rfl 0 (by decide) (hg _ w499) (fun _ h9 => h9) rfl hin rfl (tyX3_ok 0 (by decide)) rfl rfl (Nat.le_of_ble_eq_true rfl) dX3_init_9 (fun H locs hP hD hS => ?_)
  have hP : va_P D vwCl [(h0, .inr (3, [.ref q1, .null, .null, .null, .int 0, .int 0, .int 0, .int 0, .int 0, .int 0, .int 0, .int 0, .int 0])), (q1, .inl (k2, 8, .inl (fun _ => 0)))] H := hP
  have hD : va_D A [(h0, .inr (3, [.ref q1, .null, .null, .null, .int 0, .int 0, .int 0, .int 0, .int 0, .int 0, .int 0, .int 0, .int 0])), (q1, .inl (k2, 8, .inl (fun _ => 0)))] := hD
  refine lv_aload_n hx hb dX3_init_12 rfl (lv_at hl 0 rfl) ?_
  refine lv_bipush (v := 8) hx hb dX3_init_13 (by decide) ?_
  refine va_newa (D := D) (atype := .int) (ty := .int) (n := 8) (N' := 8) (a0 := (8, .inl (fun _ => 0))) hx hb (hg _ w297) rfl hK hP hD hS hA (fun _ => rfl) (by decide) (by decide) (by decide) (Nat.le_of_ble_eq_true rfl) (Nat.le_of_ble_eq_true rfl) dX3_init_15 (fun q3 k4 H hK hP hD hS => ?_)
  have hP : va_P D vwCl [(h0, .inr (3, [.ref q1, .null, .null, .null, .int 0, .int 0, .int 0, .int 0, .int 0, .int 0, .int 0, .int 0, .int 0])), (q1, .inl (k2, 8, .inl (fun _ => 0))), (q3, .inl (k4, 8, .inl (fun _ => 0)))] H := hP
  have hD : va_D A [(h0, .inr (3, [.ref q1, .null, .null, .null, .int 0, .int 0, .int 0, .int 0, .int 0, .int 0, .int 0, .int 0, .int 0])), (q1, .inl (k2, 8, .inl (fun _ => 0))), (q3, .inl (k4, 8, .inl (fun _ => 0)))] := hD
  have hK : va_K D vwCl [(k2, .int), (k4, .int)] s := hK
  refine va_putF (D := D) (ci := 3) (v := .ref q3) (ty := tyX3 1) (C := RX3) (T := TX3) (N := 13) hx hb hg inX3 tyX3 tyX3_ok nmX3 hown hK hP hD hS 0 rfl rfl 1 (by decide) (hg _ w501) (fun _ h9 => h9) rfl hin rfl (tyX3_ok 1 (by decide)) rfl rfl (Nat.le_of_ble_eq_true rfl) dX3_init_17 (fun H locs hP hD hS => ?_)
  have hP : va_P D vwCl [(h0, .inr (3, [.ref q1, .ref q3, .null, .null, .int 0, .int 0, .int 0, .int 0, .int 0, .int 0, .int 0, .int 0, .int 0])), (q1, .inl (k2, 8, .inl (fun _ => 0))), (q3, .inl (k4, 8, .inl (fun _ => 0)))] H := hP
  have hD : va_D A [(h0, .inr (3, [.ref q1, .ref q3, .null, .null, .int 0, .int 0, .int 0, .int 0, .int 0, .int 0, .int 0, .int 0, .int 0])), (q1, .inl (k2, 8, .inl (fun _ => 0))), (q3, .inl (k4, 8, .inl (fun _ => 0)))] := hD
  refine lv_aload_n hx hb dX3_init_20 rfl (lv_at hl 0 rfl) ?_
  refine lv_bipush (v := 8) hx hb dX3_init_21 (by decide) ?_
  refine va_newa (D := D) (atype := .int) (ty := .int) (n := 8) (N' := 8) (a0 := (8, .inl (fun _ => 0))) hx hb (hg _ w297) rfl hK hP hD hS hA (fun _ => rfl) (by decide) (by decide) (by decide) (Nat.le_of_ble_eq_true rfl) (Nat.le_of_ble_eq_true rfl) dX3_init_23 (fun q5 k6 H hK hP hD hS => ?_)
  have hP : va_P D vwCl [(h0, .inr (3, [.ref q1, .ref q3, .null, .null, .int 0, .int 0, .int 0, .int 0, .int 0, .int 0, .int 0, .int 0, .int 0])), (q1, .inl (k2, 8, .inl (fun _ => 0))), (q3, .inl (k4, 8, .inl (fun _ => 0))), (q5, .inl (k6, 8, .inl (fun _ => 0)))] H := hP
  have hD : va_D A [(h0, .inr (3, [.ref q1, .ref q3, .null, .null, .int 0, .int 0, .int 0, .int 0, .int 0, .int 0, .int 0, .int 0, .int 0])), (q1, .inl (k2, 8, .inl (fun _ => 0))), (q3, .inl (k4, 8, .inl (fun _ => 0))), (q5, .inl (k6, 8, .inl (fun _ => 0)))] := hD
  have hK : va_K D vwCl [(k2, .int), (k4, .int), (k6, .int)] s := hK
  refine va_putF (D := D) (ci := 3) (v := .ref q5) (ty := tyX3 2) (C := RX3) (T := TX3) (N := 13) hx hb hg inX3 tyX3 tyX3_ok nmX3 hown hK hP hD hS 0 rfl rfl 2 (by decide) (hg _ w503) (fun _ h9 => h9) rfl hin rfl (tyX3_ok 2 (by decide)) rfl rfl (Nat.le_of_ble_eq_true rfl) dX3_init_25 (fun H locs hP hD hS => ?_)
  have hP : va_P D vwCl [(h0, .inr (3, [.ref q1, .ref q3, .ref q5, .null, .int 0, .int 0, .int 0, .int 0, .int 0, .int 0, .int 0, .int 0, .int 0])), (q1, .inl (k2, 8, .inl (fun _ => 0))), (q3, .inl (k4, 8, .inl (fun _ => 0))), (q5, .inl (k6, 8, .inl (fun _ => 0)))] H := hP
  have hD : va_D A [(h0, .inr (3, [.ref q1, .ref q3, .ref q5, .null, .int 0, .int 0, .int 0, .int 0, .int 0, .int 0, .int 0, .int 0, .int 0])), (q1, .inl (k2, 8, .inl (fun _ => 0))), (q3, .inl (k4, 8, .inl (fun _ => 0))), (q5, .inl (k6, 8, .inl (fun _ => 0)))] := hD
  refine lv_aload_n hx hb dX3_init_28 rfl (lv_at hl 0 rfl) ?_
  refine lv_bipush (v := 20) hx hb dX3_init_29 (by decide) ?_
  refine va_newa (D := D) (atype := .int) (ty := .int) (n := 20) (N' := 20) (a0 := (20, .inl (fun _ => 0))) hx hb (hg _ w297) rfl hK hP hD hS hA (fun _ => rfl) (by decide) (by decide) (by decide) (Nat.le_of_ble_eq_true rfl) (Nat.le_of_ble_eq_true rfl) dX3_init_31 (fun q7 k8 H hK hP hD hS => ?_)
  have hP : va_P D vwCl [(h0, .inr (3, [.ref q1, .ref q3, .ref q5, .null, .int 0, .int 0, .int 0, .int 0, .int 0, .int 0, .int 0, .int 0, .int 0])), (q1, .inl (k2, 8, .inl (fun _ => 0))), (q3, .inl (k4, 8, .inl (fun _ => 0))), (q5, .inl (k6, 8, .inl (fun _ => 0))), (q7, .inl (k8, 20, .inl (fun _ => 0)))] H := hP
  have hD : va_D A [(h0, .inr (3, [.ref q1, .ref q3, .ref q5, .null, .int 0, .int 0, .int 0, .int 0, .int 0, .int 0, .int 0, .int 0, .int 0])), (q1, .inl (k2, 8, .inl (fun _ => 0))), (q3, .inl (k4, 8, .inl (fun _ => 0))), (q5, .inl (k6, 8, .inl (fun _ => 0))), (q7, .inl (k8, 20, .inl (fun _ => 0)))] := hD
  have hK : va_K D vwCl [(k2, .int), (k4, .int), (k6, .int), (k8, .int)] s := hK
  refine va_putF (D := D) (ci := 3) (v := .ref q7) (ty := tyX3 3) (C := RX3) (T := TX3) (N := 13) hx hb hg inX3 tyX3 tyX3_ok nmX3 hown hK hP hD hS 0 rfl rfl 3 (by decide) (hg _ w507) (fun _ h9 => h9) rfl hin rfl (tyX3_ok 3 (by decide)) rfl rfl (Nat.le_of_ble_eq_true rfl) dX3_init_33 (fun H locs hP hD hS => ?_)
  have hP : va_P D vwCl [(h0, .inr (3, [.ref q1, .ref q3, .ref q5, .ref q7, .int 0, .int 0, .int 0, .int 0, .int 0, .int 0, .int 0, .int 0, .int 0])), (q1, .inl (k2, 8, .inl (fun _ => 0))), (q3, .inl (k4, 8, .inl (fun _ => 0))), (q5, .inl (k6, 8, .inl (fun _ => 0))), (q7, .inl (k8, 20, .inl (fun _ => 0)))] H := hP
  have hD : va_D A [(h0, .inr (3, [.ref q1, .ref q3, .ref q5, .ref q7, .int 0, .int 0, .int 0, .int 0, .int 0, .int 0, .int 0, .int 0, .int 0])), (q1, .inl (k2, 8, .inl (fun _ => 0))), (q3, .inl (k4, 8, .inl (fun _ => 0))), (q5, .inl (k6, 8, .inl (fun _ => 0))), (q7, .inl (k8, 20, .inl (fun _ => 0)))] := hD
  refine W.widen (k := 4) (n := 44) (Nat.le_of_ble_eq_true rfl) (Nat.le_of_ble_eq_true rfl) ?_
  have hP9 := hP.sub (ws' := [(h0, .inr (3, [.ref q1, .ref q3, .ref q5, .ref q7, .int 0, .int 0, .int 0, .int 0, .int 0, .int 0, .int 0, .int 0, .int 0])), (q1, .inl (k2, 8, .inl (fun _ => 0))), (q3, .inl (k4, 8, .inl (fun _ => 0))), (q5, .inl (k6, 8, .inl (fun _ => 0))), (q7, .inl (k8, 20, .inl (fun _ => 0)))]) [0, 1, 2, 3, 4] rfl
  have hD9 := hD.sub (ws' := [(h0, .inr (3, [.ref q1, .ref q3, .ref q5, .ref q7, .int 0, .int 0, .int 0, .int 0, .int 0, .int 0, .int 0, .int 0, .int 0])), (q1, .inl (k2, 8, .inl (fun _ => 0))), (q3, .inl (k4, 8, .inl (fun _ => 0))), (q5, .inl (k6, 8, .inl (fun _ => 0))), (q7, .inl (k8, 20, .inl (fun _ => 0)))]) [0, 1, 2, 3, 4] (by decide) rfl
  have hK9 := hK.sub (tys' := [(k2, .int), (k4, .int), (k6, .int), (k8, .int)]) [0, 1, 2, 3] rfl
  exact W.vret hx hb hr (fun t ht hW => ⟨⟨(q1, q3, q5, q7, k2, k4, k6, k8), rfl, (by first | rfl | trivial | assumption | decide), by rw [ht]; exact hP9, va_K.moved hW.alike hK9, hD9⟩, hS.F ht⟩) hS.2.2 dX3_init_36
abbrev r_c_Notes_init : Room := { frames := 1, cells := 5, slots := 900, locals := 20 }
abbrev q_c_Notes_init (D : va_G) (h0 : Nat) (A : Nat → Prop) : Array Value → State → Outcome → State → Prop := va_Qv (fun (u : Nat × Nat × Nat × Nat × Nat × ClassId × ClassId × ClassId × ClassId × ClassId) => True) (fun u t => gq D A ((fun (u : Nat × Nat × Nat × Nat × Nat × ClassId × ClassId × ClassId × ClassId × ClassId) => [(h0, .inr (7, [.ref u.1, .ref u.2.1, .ref u.2.2.1, .ref u.2.2.2.1, .ref u.2.2.2.2.1, .int 0, .int 0, .int 0, .int 0, .int 0])), (u.1, .inl (u.2.2.2.2.2.1, 100, .inl (fun _ => 0))), (u.2.1, .inl (u.2.2.2.2.2.2.1, 100, .inl (fun _ => 0))), (u.2.2.1, .inl (u.2.2.2.2.2.2.2.1, 100, .inl (fun _ => 0))), (u.2.2.2.1, .inl (u.2.2.2.2.2.2.2.2.1, 300, .inl (fun _ => 0))), (u.2.2.2.2.1, .inl (u.2.2.2.2.2.2.2.2.2, 300, .inl (fun _ => 0)))]) u) ((fun (u : Nat × Nat × Nat × Nat × Nat × ClassId × ClassId × ClassId × ClassId × ClassId) => ([(u.2.2.2.2.2.1, .int), (u.2.2.2.2.2.2.1, .int), (u.2.2.2.2.2.2.2.1, .int), (u.2.2.2.2.2.2.2.2.1, .int), (u.2.2.2.2.2.2.2.2.2, .int)] : List (ClassId × FieldType))) u) t) A
set_option maxHeartbeats 4000000 in
set_option maxRecDepth 100000 in
theorem c_Notes_init (l : Launch) (D : va_G) (ks : KS) (sz : Nat) (h0 : Nat) : Met l yX7_init (Cond.code yX7_init cX7_init 1 none :: GW) r_c_Notes_init (va_Pc [.ref h0] (gp D ks [(h0, .inr (7, [.null, .null, .null, .null, .null, .int 0, .int 0, .int 0, .int 0, .int 0]))] [] sz)) (q_c_Notes_init D h0 (va_A [(h0, .inr (7, [.null, .null, .null, .null, .null, .int 0, .int 0, .int 0, .int 0, .int 0]))] sz)) 5 900 (va_A [(h0, .inr (7, [.null, .null, .null, .null, .null, .int 0, .int 0, .int 0, .int 0, .int 0]))] sz) := by
  refine g_met (q_c_Notes_init D h0) (by decide) (Nat.le_of_ble_eq_true rfl) ?_
  intro p e s m below meth c A ls H locs hx hb hr hml hown hg hlocks hin hnw hgk hP hK hD hS hA hl
  have hown : s.vm.findClass RX7 = some m.cls := hown
  have hin : meth.name = "<init>" := hin
  have hl : lv_has ls 1 [(0, .ref h0)] := hl
  refine lv_aload_n hx hb dX7_init_0 rfl (lv_at hl 0 rfl) ?_
  refine W.objInit hx hb hown (hg _ w434) (hg _ w188) (hg _ wobj) rfl (by rw [hml]; exact hl.1) rfl dX7_init_1 (Nat.le_of_ble_eq_true rfl) (Nat.le_of_ble_eq_true rfl) ?_
  refine W.eq (g2 := F0 m 4 ls []) rfl ?_
  refine lv_aload_n hx hb dX7_init_4 rfl (lv_at hl 0 rfl) ?_
  refine lv_bipush (v := 100) hx hb dX7_init_5 (by decide) ?_
  refine va_newa (D := D) (atype := .int) (ty := .int) (n := 100) (N' := 100) (a0 := (100, .inl (fun _ => 0))) hx hb (hg _ w297) rfl hK hP hD hS hA (fun _ => rfl) (by decide) (by decide) (by decide) (Nat.le_of_ble_eq_true rfl) (Nat.le_of_ble_eq_true rfl) dX7_init_7 (fun q1 k2 H hK hP hD hS => ?_)
  have hP : va_P D vwCl [(h0, .inr (7, [.null, .null, .null, .null, .null, .int 0, .int 0, .int 0, .int 0, .int 0])), (q1, .inl (k2, 100, .inl (fun _ => 0)))] H := hP
  have hD : va_D A [(h0, .inr (7, [.null, .null, .null, .null, .null, .int 0, .int 0, .int 0, .int 0, .int 0])), (q1, .inl (k2, 100, .inl (fun _ => 0)))] := hD
  have hK : va_K D vwCl [(k2, .int)] s := hK
  refine va_putF (D := D) (ci := 7) (v := .ref q1) (ty := tyX7 0) (C := RX7) (T := TX7) (N := 10) hx hb hg inX7 tyX7 tyX7_ok nmX7 hown hK hP hD hS 0 rfl rfl 0 (by decide) (hg _ w435) (fun _ h9 => h9) rfl hin rfl (tyX7_ok 0 (by decide)) rfl rfl (Nat.le_of_ble_eq_true rfl) dX7_init_9 (fun H locs hP hD hS => ?_)
  have hP : va_P D vwCl [(h0, .inr (7, [.ref q1, .null, .null, .null, .null, .int 0, .int 0, .int 0, .int 0, .int 0])), (q1, .inl (k2, 100, .inl (fun _ => 0)))] H := hP
  have hD : va_D A [(h0, .inr (7, [.ref q1, .null, .null, .null, .null, .int 0, .int 0, .int 0, .int 0, .int 0])), (q1, .inl (k2, 100, .inl (fun _ => 0)))] := hD
  refine lv_aload_n hx hb dX7_init_12 rfl (lv_at hl 0 rfl) ?_
  refine lv_bipush (v := 100) hx hb dX7_init_13 (by decide) ?_
  refine va_newa (D := D) (atype := .int) (ty := .int) (n := 100) (N' := 100) (a0 := (100, .inl (fun _ => 0))) hx hb (hg _ w297) rfl hK hP hD hS hA (fun _ => rfl) (by decide) (by decide) (by decide) (Nat.le_of_ble_eq_true rfl) (Nat.le_of_ble_eq_true rfl) dX7_init_15 (fun q3 k4 H hK hP hD hS => ?_)
  have hP : va_P D vwCl [(h0, .inr (7, [.ref q1, .null, .null, .null, .null, .int 0, .int 0, .int 0, .int 0, .int 0])), (q1, .inl (k2, 100, .inl (fun _ => 0))), (q3, .inl (k4, 100, .inl (fun _ => 0)))] H := hP
  have hD : va_D A [(h0, .inr (7, [.ref q1, .null, .null, .null, .null, .int 0, .int 0, .int 0, .int 0, .int 0])), (q1, .inl (k2, 100, .inl (fun _ => 0))), (q3, .inl (k4, 100, .inl (fun _ => 0)))] := hD
  have hK : va_K D vwCl [(k2, .int), (k4, .int)] s := hK
  refine va_putF (D := D) (ci := 7) (v := .ref q3) (ty := tyX7 1) (C := RX7) (T := TX7) (N := 10) hx hb hg inX7 tyX7 tyX7_ok nmX7 hown hK hP hD hS 0 rfl rfl 1 (by decide) (hg _ w436) (fun _ h9 => h9) rfl hin rfl (tyX7_ok 1 (by decide)) rfl rfl (Nat.le_of_ble_eq_true rfl) dX7_init_17 (fun H locs hP hD hS => ?_)
  have hP : va_P D vwCl [(h0, .inr (7, [.ref q1, .ref q3, .null, .null, .null, .int 0, .int 0, .int 0, .int 0, .int 0])), (q1, .inl (k2, 100, .inl (fun _ => 0))), (q3, .inl (k4, 100, .inl (fun _ => 0)))] H := hP
  have hD : va_D A [(h0, .inr (7, [.ref q1, .ref q3, .null, .null, .null, .int 0, .int 0, .int 0, .int 0, .int 0])), (q1, .inl (k2, 100, .inl (fun _ => 0))), (q3, .inl (k4, 100, .inl (fun _ => 0)))] := hD
  refine lv_aload_n hx hb dX7_init_20 rfl (lv_at hl 0 rfl) ?_
  refine lv_bipush (v := 100) hx hb dX7_init_21 (by decide) ?_
  refine va_newa (D := D) (atype := .int) (ty := .int) (n := 100) (N' := 100) (a0 := (100, .inl (fun _ => 0))) hx hb (hg _ w297) rfl hK hP hD hS hA (fun _ => rfl) (by decide) (by decide) (by decide) (Nat.le_of_ble_eq_true rfl) (Nat.le_of_ble_eq_true rfl) dX7_init_23 (fun q5 k6 H hK hP hD hS => ?_)
  have hP : va_P D vwCl [(h0, .inr (7, [.ref q1, .ref q3, .null, .null, .null, .int 0, .int 0, .int 0, .int 0, .int 0])), (q1, .inl (k2, 100, .inl (fun _ => 0))), (q3, .inl (k4, 100, .inl (fun _ => 0))), (q5, .inl (k6, 100, .inl (fun _ => 0)))] H := hP
  have hD : va_D A [(h0, .inr (7, [.ref q1, .ref q3, .null, .null, .null, .int 0, .int 0, .int 0, .int 0, .int 0])), (q1, .inl (k2, 100, .inl (fun _ => 0))), (q3, .inl (k4, 100, .inl (fun _ => 0))), (q5, .inl (k6, 100, .inl (fun _ => 0)))] := hD
  have hK : va_K D vwCl [(k2, .int), (k4, .int), (k6, .int)] s := hK
  refine va_putF (D := D) (ci := 7) (v := .ref q5) (ty := tyX7 2) (C := RX7) (T := TX7) (N := 10) hx hb hg inX7 tyX7 tyX7_ok nmX7 hown hK hP hD hS 0 rfl rfl 2 (by decide) (hg _ w437) (fun _ h9 => h9) rfl hin rfl (tyX7_ok 2 (by decide)) rfl rfl (Nat.le_of_ble_eq_true rfl) dX7_init_25 (fun H locs hP hD hS => ?_)
  have hP : va_P D vwCl [(h0, .inr (7, [.ref q1, .ref q3, .ref q5, .null, .null, .int 0, .int 0, .int 0, .int 0, .int 0])), (q1, .inl (k2, 100, .inl (fun _ => 0))), (q3, .inl (k4, 100, .inl (fun _ => 0))), (q5, .inl (k6, 100, .inl (fun _ => 0)))] H := hP
  have hD : va_D A [(h0, .inr (7, [.ref q1, .ref q3, .ref q5, .null, .null, .int 0, .int 0, .int 0, .int 0, .int 0])), (q1, .inl (k2, 100, .inl (fun _ => 0))), (q3, .inl (k4, 100, .inl (fun _ => 0))), (q5, .inl (k6, 100, .inl (fun _ => 0)))] := hD
  refine lv_aload_n hx hb dX7_init_28 rfl (lv_at hl 0 rfl) ?_
  refine lv_sipush (v := 300) hx hb dX7_init_29 (by decide) ?_
  refine va_newa (D := D) (atype := .int) (ty := .int) (n := 300) (N' := 300) (a0 := (300, .inl (fun _ => 0))) hx hb (hg _ w297) rfl hK hP hD hS hA (fun _ => rfl) (by decide) (by decide) (by decide) (Nat.le_of_ble_eq_true rfl) (Nat.le_of_ble_eq_true rfl) dX7_init_32 (fun q7 k8 H hK hP hD hS => ?_)
  have hP : va_P D vwCl [(h0, .inr (7, [.ref q1, .ref q3, .ref q5, .null, .null, .int 0, .int 0, .int 0, .int 0, .int 0])), (q1, .inl (k2, 100, .inl (fun _ => 0))), (q3, .inl (k4, 100, .inl (fun _ => 0))), (q5, .inl (k6, 100, .inl (fun _ => 0))), (q7, .inl (k8, 300, .inl (fun _ => 0)))] H := hP
  have hD : va_D A [(h0, .inr (7, [.ref q1, .ref q3, .ref q5, .null, .null, .int 0, .int 0, .int 0, .int 0, .int 0])), (q1, .inl (k2, 100, .inl (fun _ => 0))), (q3, .inl (k4, 100, .inl (fun _ => 0))), (q5, .inl (k6, 100, .inl (fun _ => 0))), (q7, .inl (k8, 300, .inl (fun _ => 0)))] := hD
  have hK : va_K D vwCl [(k2, .int), (k4, .int), (k6, .int), (k8, .int)] s := hK
  refine va_putF (D := D) (ci := 7) (v := .ref q7) (ty := tyX7 3) (C := RX7) (T := TX7) (N := 10) hx hb hg inX7 tyX7 tyX7_ok nmX7 hown hK hP hD hS 0 rfl rfl 3 (by decide) (hg _ w438) (fun _ h9 => h9) rfl hin rfl (tyX7_ok 3 (by decide)) rfl rfl (Nat.le_of_ble_eq_true rfl) dX7_init_34 (fun H locs hP hD hS => ?_)
  have hP : va_P D vwCl [(h0, .inr (7, [.ref q1, .ref q3, .ref q5, .ref q7, .null, .int 0, .int 0, .int 0, .int 0, .int 0])), (q1, .inl (k2, 100, .inl (fun _ => 0))), (q3, .inl (k4, 100, .inl (fun _ => 0))), (q5, .inl (k6, 100, .inl (fun _ => 0))), (q7, .inl (k8, 300, .inl (fun _ => 0)))] H := hP
  have hD : va_D A [(h0, .inr (7, [.ref q1, .ref q3, .ref q5, .ref q7, .null, .int 0, .int 0, .int 0, .int 0, .int 0])), (q1, .inl (k2, 100, .inl (fun _ => 0))), (q3, .inl (k4, 100, .inl (fun _ => 0))), (q5, .inl (k6, 100, .inl (fun _ => 0))), (q7, .inl (k8, 300, .inl (fun _ => 0)))] := hD
  refine lv_aload_n hx hb dX7_init_37 rfl (lv_at hl 0 rfl) ?_
  refine lv_sipush (v := 300) hx hb dX7_init_38 (by decide) ?_
  refine va_newa (D := D) (atype := .int) (ty := .int) (n := 300) (N' := 300) (a0 := (300, .inl (fun _ => 0))) hx hb (hg _ w297) rfl hK hP hD hS hA (fun _ => rfl) (by decide) (by decide) (by decide) (Nat.le_of_ble_eq_true rfl) (Nat.le_of_ble_eq_true rfl) dX7_init_41 (fun q9 k10 H hK hP hD hS => ?_)
  have hP : va_P D vwCl [(h0, .inr (7, [.ref q1, .ref q3, .ref q5, .ref q7, .null, .int 0, .int 0, .int 0, .int 0, .int 0])), (q1, .inl (k2, 100, .inl (fun _ => 0))), (q3, .inl (k4, 100, .inl (fun _ => 0))), (q5, .inl (k6, 100, .inl (fun _ => 0))), (q7, .inl (k8, 300, .inl (fun _ => 0))), (q9, .inl (k10, 300, .inl (fun _ => 0)))] H := hP
  have hD : va_D A [(h0, .inr (7, [.ref q1, .ref q3, .ref q5, .ref q7, .null, .int 0, .int 0, .int 0, .int 0, .int 0])), (q1, .inl (k2, 100, .inl (fun _ => 0))), (q3, .inl (k4, 100, .inl (fun _ => 0))), (q5, .inl (k6, 100, .inl (fun _ => 0))), (q7, .inl (k8, 300, .inl (fun _ => 0))), (q9, .inl (k10, 300, .inl (fun _ => 0)))] := hD
  have hK : va_K D vwCl [(k2, .int), (k4, .int), (k6, .int), (k8, .int), (k10, .int)] s := hK
  refine va_putF (D := D) (ci := 7) (v := .ref q9) (ty := tyX7 4) (C := RX7) (T := TX7) (N := 10) hx hb hg inX7 tyX7 tyX7_ok nmX7 hown hK hP hD hS 0 rfl rfl 4 (by decide) (hg _ w439) (fun _ h9 => h9) rfl hin rfl (tyX7_ok 4 (by decide)) rfl rfl (Nat.le_of_ble_eq_true rfl) dX7_init_43 (fun H locs hP hD hS => ?_)
  have hP : va_P D vwCl [(h0, .inr (7, [.ref q1, .ref q3, .ref q5, .ref q7, .ref q9, .int 0, .int 0, .int 0, .int 0, .int 0])), (q1, .inl (k2, 100, .inl (fun _ => 0))), (q3, .inl (k4, 100, .inl (fun _ => 0))), (q5, .inl (k6, 100, .inl (fun _ => 0))), (q7, .inl (k8, 300, .inl (fun _ => 0))), (q9, .inl (k10, 300, .inl (fun _ => 0)))] H := hP
  have hD : va_D A [(h0, .inr (7, [.ref q1, .ref q3, .ref q5, .ref q7, .ref q9, .int 0, .int 0, .int 0, .int 0, .int 0])), (q1, .inl (k2, 100, .inl (fun _ => 0))), (q3, .inl (k4, 100, .inl (fun _ => 0))), (q5, .inl (k6, 100, .inl (fun _ => 0))), (q7, .inl (k8, 300, .inl (fun _ => 0))), (q9, .inl (k10, 300, .inl (fun _ => 0)))] := hD
  refine W.widen (k := 5) (n := 900) (Nat.le_of_ble_eq_true rfl) (Nat.le_of_ble_eq_true rfl) ?_
  have hP9 := hP.sub (ws' := [(h0, .inr (7, [.ref q1, .ref q3, .ref q5, .ref q7, .ref q9, .int 0, .int 0, .int 0, .int 0, .int 0])), (q1, .inl (k2, 100, .inl (fun _ => 0))), (q3, .inl (k4, 100, .inl (fun _ => 0))), (q5, .inl (k6, 100, .inl (fun _ => 0))), (q7, .inl (k8, 300, .inl (fun _ => 0))), (q9, .inl (k10, 300, .inl (fun _ => 0)))]) [0, 1, 2, 3, 4, 5] rfl
  have hD9 := hD.sub (ws' := [(h0, .inr (7, [.ref q1, .ref q3, .ref q5, .ref q7, .ref q9, .int 0, .int 0, .int 0, .int 0, .int 0])), (q1, .inl (k2, 100, .inl (fun _ => 0))), (q3, .inl (k4, 100, .inl (fun _ => 0))), (q5, .inl (k6, 100, .inl (fun _ => 0))), (q7, .inl (k8, 300, .inl (fun _ => 0))), (q9, .inl (k10, 300, .inl (fun _ => 0)))]) [0, 1, 2, 3, 4, 5] (by decide) rfl
  have hK9 := hK.sub (tys' := [(k2, .int), (k4, .int), (k6, .int), (k8, .int), (k10, .int)]) [0, 1, 2, 3, 4] rfl
  exact W.vret hx hb hr (fun t ht hW => ⟨⟨(q1, q3, q5, q7, q9, k2, k4, k6, k8, k10), rfl, (by first | rfl | trivial | assumption | decide), by rw [ht]; exact hP9, va_K.moved hW.alike hK9, hD9⟩, hS.F ht⟩) hS.2.2 dX7_init_46
abbrev r_c_Checker_init : Room := { frames := 1, cells := 6, slots := 2748, locals := 20 }
abbrev q_c_Checker_init (D : va_G) (h0 : Nat) (A : Nat → Prop) : Array Value → State → Outcome → State → Prop := va_Qv (fun (u : Nat × Nat × Nat × Nat × Nat × Nat × ClassId × ClassId × ClassId × ClassId × ClassId × ClassId) => True) (fun u t => gq D A ((fun (u : Nat × Nat × Nat × Nat × Nat × Nat × ClassId × ClassId × ClassId × ClassId × ClassId × ClassId) => [(h0, .inr (2, [.ref u.1, .ref u.2.1, .ref u.2.2.1, .ref u.2.2.2.1, .ref u.2.2.2.2.1, .ref u.2.2.2.2.2.1, .null, .int 0])), (u.1, .inl (u.2.2.2.2.2.2.1, 100, .inl (fun _ => 0))), (u.2.1, .inl (u.2.2.2.2.2.2.2.1, 100, .inl (fun _ => 0))), (u.2.2.1, .inl (u.2.2.2.2.2.2.2.2.1, 100, .inl (fun _ => 0))), (u.2.2.2.1, .inl (u.2.2.2.2.2.2.2.2.2.1, 2400, .inl (fun _ => 0))), (u.2.2.2.2.1, .inl (u.2.2.2.2.2.2.2.2.2.2.1, 24, .inl (fun _ => 0))), (u.2.2.2.2.2.1, .inl (u.2.2.2.2.2.2.2.2.2.2.2, 24, .inl (fun _ => 0)))]) u) ((fun (u : Nat × Nat × Nat × Nat × Nat × Nat × ClassId × ClassId × ClassId × ClassId × ClassId × ClassId) => ([(u.2.2.2.2.2.2.1, .int), (u.2.2.2.2.2.2.2.1, .int), (u.2.2.2.2.2.2.2.2.1, .int), (u.2.2.2.2.2.2.2.2.2.1, .int), (u.2.2.2.2.2.2.2.2.2.2.1, .int), (u.2.2.2.2.2.2.2.2.2.2.2, .int)] : List (ClassId × FieldType))) u) t) A
set_option maxHeartbeats 4000000 in
set_option maxRecDepth 100000 in
theorem c_Checker_init (l : Launch) (D : va_G) (ks : KS) (sz : Nat) (h0 : Nat) : Met l yX2_init (Cond.code yX2_init cX2_init 1 none :: GW) r_c_Checker_init (va_Pc [.ref h0] (gp D ks [(h0, .inr (2, [.null, .null, .null, .null, .null, .null, .null, .int 0]))] [] sz)) (q_c_Checker_init D h0 (va_A [(h0, .inr (2, [.null, .null, .null, .null, .null, .null, .null, .int 0]))] sz)) 6 2748 (va_A [(h0, .inr (2, [.null, .null, .null, .null, .null, .null, .null, .int 0]))] sz) := by
  refine g_met (q_c_Checker_init D h0) (by decide) (Nat.le_of_ble_eq_true rfl) ?_
  intro p e s m below meth c A ls H locs hx hb hr hml hown hg hlocks hin hnw hgk hP hK hD hS hA hl
  have hown : s.vm.findClass RX2 = some m.cls := hown
  have hin : meth.name = "<init>" := hin
  have hl : lv_has ls 1 [(0, .ref h0)] := hl
  refine lv_aload_n hx hb dX2_init_0 rfl (lv_at hl 0 rfl) ?_
  refine W.objInit hx hb hown (hg _ w337) (hg _ w188) (hg _ wobj) rfl (by rw [hml]; exact hl.1) rfl dX2_init_1 (Nat.le_of_ble_eq_true rfl) (Nat.le_of_ble_eq_true rfl) ?_
  refine W.eq (g2 := F0 m 4 ls []) rfl ?_
  refine lv_aload_n hx hb dX2_init_4 rfl (lv_at hl 0 rfl) ?_
  refine lv_bipush (v := 100) hx hb dX2_init_5 (by decide) ?_
  refine va_newa (D := D) (atype := .int) (ty := .int) (n := 100) (N' := 100) (a0 := (100, .inl (fun _ => 0))) hx hb (hg _ w297) rfl hK hP hD hS hA (fun _ => rfl) (by decide) (by decide) (by decide) (Nat.le_of_ble_eq_true rfl) (Nat.le_of_ble_eq_true rfl) dX2_init_7 (fun q1 k2 H hK hP hD hS => ?_)
  have hP : va_P D vwCl [(h0, .inr (2, [.null, .null, .null, .null, .null, .null, .null, .int 0])), (q1, .inl (k2, 100, .inl (fun _ => 0)))] H := hP
  have hD : va_D A [(h0, .inr (2, [.null, .null, .null, .null, .null, .null, .null, .int 0])), (q1, .inl (k2, 100, .inl (fun _ => 0)))] := hD
  have hK : va_K D vwCl [(k2, .int)] s := hK
  refine va_putF (D := D) (ci := 2) (v := .ref q1) (ty := tyX2 0) (C := RX2) (T := TX2) (N := 8) hx hb hg inX2 tyX2 tyX2_ok nmX2 hown hK hP hD hS 0 rfl rfl 0 (by decide) (hg _ w338) (fun _ h9 => h9) rfl hin rfl (tyX2_ok 0 (by decide)) rfl rfl (Nat.le_of_ble_eq_true rfl) dX2_init_9 (fun H locs hP hD hS => ?_)
  have hP : va_P D vwCl [(h0, .inr (2, [.ref q1, .null, .null, .null, .null, .null, .null, .int 0])), (q1, .inl (k2, 100, .inl (fun _ => 0)))] H := hP
  have hD : va_D A [(h0, .inr (2, [.ref q1, .null, .null, .null, .null, .null, .null, .int 0])), (q1, .inl (k2, 100, .inl (fun _ => 0)))] := hD
  refine lv_aload_n hx hb dX2_init_12 rfl (lv_at hl 0 rfl) ?_
  refine lv_bipush (v := 100) hx hb dX2_init_13 (by decide) ?_
  refine va_newa (D := D) (atype := .int) (ty := .int) (n := 100) (N' := 100) (a0 := (100, .inl (fun _ => 0))) hx hb (hg _ w297) rfl hK hP hD hS hA (fun _ => rfl) (by decide) (by decide) (by decide) (Nat.le_of_ble_eq_true rfl) (Nat.le_of_ble_eq_true rfl) dX2_init_15 (fun q3 k4 H hK hP hD hS => ?_)
  have hP : va_P D vwCl [(h0, .inr (2, [.ref q1, .null, .null, .null, .null, .null, .null, .int 0])), (q1, .inl (k2, 100, .inl (fun _ => 0))), (q3, .inl (k4, 100, .inl (fun _ => 0)))] H := hP
  have hD : va_D A [(h0, .inr (2, [.ref q1, .null, .null, .null, .null, .null, .null, .int 0])), (q1, .inl (k2, 100, .inl (fun _ => 0))), (q3, .inl (k4, 100, .inl (fun _ => 0)))] := hD
  have hK : va_K D vwCl [(k2, .int), (k4, .int)] s := hK
  refine va_putF (D := D) (ci := 2) (v := .ref q3) (ty := tyX2 1) (C := RX2) (T := TX2) (N := 8) hx hb hg inX2 tyX2 tyX2_ok nmX2 hown hK hP hD hS 0 rfl rfl 1 (by decide) (hg _ w339) (fun _ h9 => h9) rfl hin rfl (tyX2_ok 1 (by decide)) rfl rfl (Nat.le_of_ble_eq_true rfl) dX2_init_17 (fun H locs hP hD hS => ?_)
  have hP : va_P D vwCl [(h0, .inr (2, [.ref q1, .ref q3, .null, .null, .null, .null, .null, .int 0])), (q1, .inl (k2, 100, .inl (fun _ => 0))), (q3, .inl (k4, 100, .inl (fun _ => 0)))] H := hP
  have hD : va_D A [(h0, .inr (2, [.ref q1, .ref q3, .null, .null, .null, .null, .null, .int 0])), (q1, .inl (k2, 100, .inl (fun _ => 0))), (q3, .inl (k4, 100, .inl (fun _ => 0)))] := hD
  refine lv_aload_n hx hb dX2_init_20 rfl (lv_at hl 0 rfl) ?_
  refine lv_bipush (v := 100) hx hb dX2_init_21 (by decide) ?_
  refine va_newa (D := D) (atype := .int) (ty := .int) (n := 100) (N' := 100) (a0 := (100, .inl (fun _ => 0))) hx hb (hg _ w297) rfl hK hP hD hS hA (fun _ => rfl) (by decide) (by decide) (by decide) (Nat.le_of_ble_eq_true rfl) (Nat.le_of_ble_eq_true rfl) dX2_init_23 (fun q5 k6 H hK hP hD hS => ?_)
  have hP : va_P D vwCl [(h0, .inr (2, [.ref q1, .ref q3, .null, .null, .null, .null, .null, .int 0])), (q1, .inl (k2, 100, .inl (fun _ => 0))), (q3, .inl (k4, 100, .inl (fun _ => 0))), (q5, .inl (k6, 100, .inl (fun _ => 0)))] H := hP
  have hD : va_D A [(h0, .inr (2, [.ref q1, .ref q3, .null, .null, .null, .null, .null, .int 0])), (q1, .inl (k2, 100, .inl (fun _ => 0))), (q3, .inl (k4, 100, .inl (fun _ => 0))), (q5, .inl (k6, 100, .inl (fun _ => 0)))] := hD
  have hK : va_K D vwCl [(k2, .int), (k4, .int), (k6, .int)] s := hK
  refine va_putF (D := D) (ci := 2) (v := .ref q5) (ty := tyX2 2) (C := RX2) (T := TX2) (N := 8) hx hb hg inX2 tyX2 tyX2_ok nmX2 hown hK hP hD hS 0 rfl rfl 2 (by decide) (hg _ w340) (fun _ h9 => h9) rfl hin rfl (tyX2_ok 2 (by decide)) rfl rfl (Nat.le_of_ble_eq_true rfl) dX2_init_25 (fun H locs hP hD hS => ?_)
  have hP : va_P D vwCl [(h0, .inr (2, [.ref q1, .ref q3, .ref q5, .null, .null, .null, .null, .int 0])), (q1, .inl (k2, 100, .inl (fun _ => 0))), (q3, .inl (k4, 100, .inl (fun _ => 0))), (q5, .inl (k6, 100, .inl (fun _ => 0)))] H := hP
  have hD : va_D A [(h0, .inr (2, [.ref q1, .ref q3, .ref q5, .null, .null, .null, .null, .int 0])), (q1, .inl (k2, 100, .inl (fun _ => 0))), (q3, .inl (k4, 100, .inl (fun _ => 0))), (q5, .inl (k6, 100, .inl (fun _ => 0)))] := hD
  refine lv_aload_n hx hb dX2_init_28 rfl (lv_at hl 0 rfl) ?_
  refine lv_sipush (v := 2400) hx hb dX2_init_29 (by decide) ?_
  refine va_newa (D := D) (atype := .int) (ty := .int) (n := 2400) (N' := 2400) (a0 := (2400, .inl (fun _ => 0))) hx hb (hg _ w297) rfl hK hP hD hS hA (fun _ => rfl) (by decide) (by decide) (by decide) (Nat.le_of_ble_eq_true rfl) (Nat.le_of_ble_eq_true rfl) dX2_init_32 (fun q7 k8 H hK hP hD hS => ?_)
  have hP : va_P D vwCl [(h0, .inr (2, [.ref q1, .ref q3, .ref q5, .null, .null, .null, .null, .int 0])), (q1, .inl (k2, 100, .inl (fun _ => 0))), (q3, .inl (k4, 100, .inl (fun _ => 0))), (q5, .inl (k6, 100, .inl (fun _ => 0))), (q7, .inl (k8, 2400, .inl (fun _ => 0)))] H := hP
  have hD : va_D A [(h0, .inr (2, [.ref q1, .ref q3, .ref q5, .null, .null, .null, .null, .int 0])), (q1, .inl (k2, 100, .inl (fun _ => 0))), (q3, .inl (k4, 100, .inl (fun _ => 0))), (q5, .inl (k6, 100, .inl (fun _ => 0))), (q7, .inl (k8, 2400, .inl (fun _ => 0)))] := hD
  have hK : va_K D vwCl [(k2, .int), (k4, .int), (k6, .int), (k8, .int)] s := hK
  refine va_putF (D := D) (ci := 2) (v := .ref q7) (ty := tyX2 3) (C := RX2) (T := TX2) (N := 8) hx hb hg inX2 tyX2 tyX2_ok nmX2 hown hK hP hD hS 0 rfl rfl 3 (by decide) (hg _ w341) (fun _ h9 => h9) rfl hin rfl (tyX2_ok 3 (by decide)) rfl rfl (Nat.le_of_ble_eq_true rfl) dX2_init_34 (fun H locs hP hD hS => ?_)
  have hP : va_P D vwCl [(h0, .inr (2, [.ref q1, .ref q3, .ref q5, .ref q7, .null, .null, .null, .int 0])), (q1, .inl (k2, 100, .inl (fun _ => 0))), (q3, .inl (k4, 100, .inl (fun _ => 0))), (q5, .inl (k6, 100, .inl (fun _ => 0))), (q7, .inl (k8, 2400, .inl (fun _ => 0)))] H := hP
  have hD : va_D A [(h0, .inr (2, [.ref q1, .ref q3, .ref q5, .ref q7, .null, .null, .null, .int 0])), (q1, .inl (k2, 100, .inl (fun _ => 0))), (q3, .inl (k4, 100, .inl (fun _ => 0))), (q5, .inl (k6, 100, .inl (fun _ => 0))), (q7, .inl (k8, 2400, .inl (fun _ => 0)))] := hD
  refine lv_aload_n hx hb dX2_init_37 rfl (lv_at hl 0 rfl) ?_
  refine lv_bipush (v := 24) hx hb dX2_init_38 (by decide) ?_
  refine va_newa (D := D) (atype := .int) (ty := .int) (n := 24) (N' := 24) (a0 := (24, .inl (fun _ => 0))) hx hb (hg _ w297) rfl hK hP hD hS hA (fun _ => rfl) (by decide) (by decide) (by decide) (Nat.le_of_ble_eq_true rfl) (Nat.le_of_ble_eq_true rfl) dX2_init_40 (fun q9 k10 H hK hP hD hS => ?_)
  have hP : va_P D vwCl [(h0, .inr (2, [.ref q1, .ref q3, .ref q5, .ref q7, .null, .null, .null, .int 0])), (q1, .inl (k2, 100, .inl (fun _ => 0))), (q3, .inl (k4, 100, .inl (fun _ => 0))), (q5, .inl (k6, 100, .inl (fun _ => 0))), (q7, .inl (k8, 2400, .inl (fun _ => 0))), (q9, .inl (k10, 24, .inl (fun _ => 0)))] H := hP
  have hD : va_D A [(h0, .inr (2, [.ref q1, .ref q3, .ref q5, .ref q7, .null, .null, .null, .int 0])), (q1, .inl (k2, 100, .inl (fun _ => 0))), (q3, .inl (k4, 100, .inl (fun _ => 0))), (q5, .inl (k6, 100, .inl (fun _ => 0))), (q7, .inl (k8, 2400, .inl (fun _ => 0))), (q9, .inl (k10, 24, .inl (fun _ => 0)))] := hD
  have hK : va_K D vwCl [(k2, .int), (k4, .int), (k6, .int), (k8, .int), (k10, .int)] s := hK
  refine va_putF (D := D) (ci := 2) (v := .ref q9) (ty := tyX2 4) (C := RX2) (T := TX2) (N := 8) hx hb hg inX2 tyX2 tyX2_ok nmX2 hown hK hP hD hS 0 rfl rfl 4 (by decide) (hg _ w342) (fun _ h9 => h9) rfl hin rfl (tyX2_ok 4 (by decide)) rfl rfl (Nat.le_of_ble_eq_true rfl) dX2_init_42 (fun H locs hP hD hS => ?_)
  have hP : va_P D vwCl [(h0, .inr (2, [.ref q1, .ref q3, .ref q5, .ref q7, .ref q9, .null, .null, .int 0])), (q1, .inl (k2, 100, .inl (fun _ => 0))), (q3, .inl (k4, 100, .inl (fun _ => 0))), (q5, .inl (k6, 100, .inl (fun _ => 0))), (q7, .inl (k8, 2400, .inl (fun _ => 0))), (q9, .inl (k10, 24, .inl (fun _ => 0)))] H := hP
  have hD : va_D A [(h0, .inr (2, [.ref q1, .ref q3, .ref q5, .ref q7, .ref q9, .null, .null, .int 0])), (q1, .inl (k2, 100, .inl (fun _ => 0))), (q3, .inl (k4, 100, .inl (fun _ => 0))), (q5, .inl (k6, 100, .inl (fun _ => 0))), (q7, .inl (k8, 2400, .inl (fun _ => 0))), (q9, .inl (k10, 24, .inl (fun _ => 0)))] := hD
  refine lv_aload_n hx hb dX2_init_45 rfl (lv_at hl 0 rfl) ?_
  refine lv_bipush (v := 24) hx hb dX2_init_46 (by decide) ?_
  refine va_newa (D := D) (atype := .int) (ty := .int) (n := 24) (N' := 24) (a0 := (24, .inl (fun _ => 0))) hx hb (hg _ w297) rfl hK hP hD hS hA (fun _ => rfl) (by decide) (by decide) (by decide) (Nat.le_of_ble_eq_true rfl) (Nat.le_of_ble_eq_true rfl) dX2_init_48 (fun q11 k12 H hK hP hD hS => ?_)
  have hP : va_P D vwCl [(h0, .inr (2, [.ref q1, .ref q3, .ref q5, .ref q7, .ref q9, .null, .null, .int 0])), (q1, .inl (k2, 100, .inl (fun _ => 0))), (q3, .inl (k4, 100, .inl (fun _ => 0))), (q5, .inl (k6, 100, .inl (fun _ => 0))), (q7, .inl (k8, 2400, .inl (fun _ => 0))), (q9, .inl (k10, 24, .inl (fun _ => 0))), (q11, .inl (k12, 24, .inl (fun _ => 0)))] H := hP
  have hD : va_D A [(h0, .inr (2, [.ref q1, .ref q3, .ref q5, .ref q7, .ref q9, .null, .null, .int 0])), (q1, .inl (k2, 100, .inl (fun _ => 0))), (q3, .inl (k4, 100, .inl (fun _ => 0))), (q5, .inl (k6, 100, .inl (fun _ => 0))), (q7, .inl (k8, 2400, .inl (fun _ => 0))), (q9, .inl (k10, 24, .inl (fun _ => 0))), (q11, .inl (k12, 24, .inl (fun _ => 0)))] := hD
  have hK : va_K D vwCl [(k2, .int), (k4, .int), (k6, .int), (k8, .int), (k10, .int), (k12, .int)] s := hK
  refine va_putF (D := D) (ci := 2) (v := .ref q11) (ty := tyX2 5) (C := RX2) (T := TX2) (N := 8) hx hb hg inX2 tyX2 tyX2_ok nmX2 hown hK hP hD hS 0 rfl rfl 5 (by decide) (hg _ w343) (fun _ h9 => h9) rfl hin rfl (tyX2_ok 5 (by decide)) rfl rfl (Nat.le_of_ble_eq_true rfl) dX2_init_50 (fun H locs hP hD hS => ?_)
  have hP : va_P D vwCl [(h0, .inr (2, [.ref q1, .ref q3, .ref q5, .ref q7, .ref q9, .ref q11, .null, .int 0])), (q1, .inl (k2, 100, .inl (fun _ => 0))), (q3, .inl (k4, 100, .inl (fun _ => 0))), (q5, .inl (k6, 100, .inl (fun _ => 0))), (q7, .inl (k8, 2400, .inl (fun _ => 0))), (q9, .inl (k10, 24, .inl (fun _ => 0))), (q11, .inl (k12, 24, .inl (fun _ => 0)))] H := hP
  have hD : va_D A [(h0, .inr (2, [.ref q1, .ref q3, .ref q5, .ref q7, .ref q9, .ref q11, .null, .int 0])), (q1, .inl (k2, 100, .inl (fun _ => 0))), (q3, .inl (k4, 100, .inl (fun _ => 0))), (q5, .inl (k6, 100, .inl (fun _ => 0))), (q7, .inl (k8, 2400, .inl (fun _ => 0))), (q9, .inl (k10, 24, .inl (fun _ => 0))), (q11, .inl (k12, 24, .inl (fun _ => 0)))] := hD
  refine W.widen (k := 6) (n := 2748) (Nat.le_of_ble_eq_true rfl) (Nat.le_of_ble_eq_true rfl) ?_
  have hP9 := hP.sub (ws' := [(h0, .inr (2, [.ref q1, .ref q3, .ref q5, .ref q7, .ref q9, .ref q11, .null, .int 0])), (q1, .inl (k2, 100, .inl (fun _ => 0))), (q3, .inl (k4, 100, .inl (fun _ => 0))), (q5, .inl (k6, 100, .inl (fun _ => 0))), (q7, .inl (k8, 2400, .inl (fun _ => 0))), (q9, .inl (k10, 24, .inl (fun _ => 0))), (q11, .inl (k12, 24, .inl (fun _ => 0)))]) [0, 1, 2, 3, 4, 5, 6] rfl
  have hD9 := hD.sub (ws' := [(h0, .inr (2, [.ref q1, .ref q3, .ref q5, .ref q7, .ref q9, .ref q11, .null, .int 0])), (q1, .inl (k2, 100, .inl (fun _ => 0))), (q3, .inl (k4, 100, .inl (fun _ => 0))), (q5, .inl (k6, 100, .inl (fun _ => 0))), (q7, .inl (k8, 2400, .inl (fun _ => 0))), (q9, .inl (k10, 24, .inl (fun _ => 0))), (q11, .inl (k12, 24, .inl (fun _ => 0)))]) [0, 1, 2, 3, 4, 5, 6] (by decide) rfl
  have hK9 := hK.sub (tys' := [(k2, .int), (k4, .int), (k6, .int), (k8, .int), (k10, .int), (k12, .int)]) [0, 1, 2, 3, 4, 5] rfl
  exact W.vret hx hb hr (fun t ht hW => ⟨⟨(q1, q3, q5, q7, q9, q11, k2, k4, k6, k8, k10, k12), rfl, (by first | rfl | trivial | assumption | decide), by rw [ht]; exact hP9, va_K.moved hW.alike hK9, hD9⟩, hS.F ht⟩) hS.2.2 dX2_init_53
abbrev r_c_Reader_init : Room := { frames := 1, cells := 0, slots := 0, locals := 20 }
abbrev q_c_Reader_init (D : va_G) (h0 : Nat) (ht : Nat) (A : Nat → Prop) : Array Value → State → Outcome → State → Prop := va_Qv (fun (_ : Unit) => True) (fun u t => gq D A ((fun (_ : Unit) => [(h0, .inr (1, [.ref ht, .null, .null, .int 0, .int 0, .long 0, .int 0, .int 0, .int 0]))]) u) ((fun (_ : Unit) => ([] : List (ClassId × FieldType))) u) t) A
set_option maxHeartbeats 4000000 in
set_option maxRecDepth 100000 in
theorem c_Reader_init (l : Launch) (D : va_G) (ks : KS) (sz : Nat) (h0 : Nat) (ht : Nat) : Met l yX1_init (Cond.code yX1_init cX1_init 2 none :: GW) r_c_Reader_init (va_Pc [.ref h0, .ref ht] (gp D ks [(h0, .inr (1, [.null, .null, .null, .int 0, .int 0, .long 0, .int 0, .int 0, .int 0]))] [] sz)) (q_c_Reader_init D h0 ht (va_A [(h0, .inr (1, [.null, .null, .null, .int 0, .int 0, .long 0, .int 0, .int 0, .int 0]))] sz)) 0 0 (va_A [(h0, .inr (1, [.null, .null, .null, .int 0, .int 0, .long 0, .int 0, .int 0, .int 0]))] sz) := by
  refine g_met (q_c_Reader_init D h0 ht) (by decide) (Nat.le_of_ble_eq_true rfl) ?_
  intro p e s m below meth c A ls H locs hx hb hr hml hown hg hlocks hin hnw hgk hP hK hD hS hA hl
  have hown : s.vm.findClass RX1 = some m.cls := hown
  have hin : meth.name = "<init>" := hin
  have hl : lv_has ls 2 [(0, .ref h0), (1, .ref ht)] := hl
  refine lv_aload_n hx hb dX1_init_0 rfl (lv_at hl 0 rfl) ?_
  refine W.objInit hx hb hown (hg _ w303) (hg _ w188) (hg _ wobj) rfl (by rw [hml]; exact hl.1) rfl dX1_init_1 (Nat.le_of_ble_eq_true rfl) (Nat.le_of_ble_eq_true rfl) ?_
  refine W.eq (g2 := F0 m 4 ls []) rfl ?_
  refine lv_aload_n hx hb dX1_init_4 rfl (lv_at hl 0 rfl) ?_
  refine lv_aload_n hx hb dX1_init_5 rfl (lv_at hl 1 rfl) ?_
  refine va_putF (D := D) (ci := 1) (v := .ref ht) (ty := tyX1 0) (C := RX1) (T := TX1) (N := 9) hx hb hg inX1 tyX1 tyX1_ok nmX1 hown hK hP hD hS 0 rfl rfl 0 (by decide) (hg _ w304) (fun _ h9 => h9) rfl hin rfl (tyX1_ok 0 (by decide)) rfl rfl (Nat.le_of_ble_eq_true rfl) dX1_init_6 (fun H locs hP hD hS => ?_)
  have hP : va_P D vwCl [(h0, .inr (1, [.ref ht, .null, .null, .int 0, .int 0, .long 0, .int 0, .int 0, .int 0]))] H := hP
  have hD : va_D A [(h0, .inr (1, [.ref ht, .null, .null, .int 0, .int 0, .long 0, .int 0, .int 0, .int 0]))] := hD
  refine W.widen (k := 0) (n := 0) (Nat.le_of_ble_eq_true rfl) (Nat.le_of_ble_eq_true rfl) ?_
  have hP9 := hP.sub (ws' := [(h0, .inr (1, [.ref ht, .null, .null, .int 0, .int 0, .long 0, .int 0, .int 0, .int 0]))]) [0] rfl
  have hD9 := hD.sub (ws' := [(h0, .inr (1, [.ref ht, .null, .null, .int 0, .int 0, .long 0, .int 0, .int 0, .int 0]))]) [0] (by decide) rfl
  have hK9 := hK.sub (tys' := []) [] rfl
  exact W.vret hx hb hr (fun t ht hW => ⟨⟨(), rfl, (by first | rfl | trivial | assumption | decide), by rw [ht]; exact hP9, va_K.moved hW.alike hK9, hD9⟩, hS.F ht⟩) hS.2.2 dX1_init_9
abbrev r_c_Machine_init : Room := { frames := 1, cells := 3, slots := 2748, locals := 20 }
abbrev q_c_Machine_init (D : va_G) (h0 : Nat) (x1 : Nat) (x2 : Nat) (x3 : Nat) (A : Nat → Prop) : Array Value → State → Outcome → State → Prop := va_Qv (fun (u : Nat × Nat × Nat × ClassId × ClassId × ClassId) => True) (fun u t => gq D A ((fun (u : Nat × Nat × Nat × ClassId × ClassId × ClassId) => [(h0, .inr (5, [.ref x2, .ref x3, .ref u.1, .ref u.2.1, .ref u.2.2.1, .ref x1, .int 0, .int 0, .int 0, .int 0, .int 0, .int 0, .int 0, .int 0, .int 0])), (u.1, .inl (u.2.2.2.1, 400, .inr (.inr (.inr (.inr (fun _ => none)))))), (u.2.1, .inl (u.2.2.2.2.1, 2048, .inl (fun _ => 0))), (u.2.2.1, .inl (u.2.2.2.2.2, 300, .inl (fun _ => 0)))]) u) ((fun (u : Nat × Nat × Nat × ClassId × ClassId × ClassId) => ([(u.2.2.2.1, .object RX4), (u.2.2.2.2.1, .int), (u.2.2.2.2.2, .int)] : List (ClassId × FieldType))) u) t) A
set_option maxHeartbeats 4000000 in
set_option maxRecDepth 100000 in
theorem c_Machine_init (l : Launch) (D : va_G) (ks : KS) (sz : Nat) (h0 : Nat) (x1 : Nat) (x2 : Nat) (x3 : Nat) : Met l yX5_init (Cond.code yX5_init cX5_init 4 none :: GW) r_c_Machine_init (va_Pc [.ref h0, .ref x1, .ref x2, .ref x3] (gp D ks [(h0, .inr (5, [.null, .null, .null, .null, .null, .null, .int 0, .int 0, .int 0, .int 0, .int 0, .int 0, .int 0, .int 0, .int 0]))] [] sz)) (q_c_Machine_init D h0 x1 x2 x3 (va_A [(h0, .inr (5, [.null, .null, .null, .null, .null, .null, .int 0, .int 0, .int 0, .int 0, .int 0, .int 0, .int 0, .int 0, .int 0]))] sz)) 3 2748 (va_A [(h0, .inr (5, [.null, .null, .null, .null, .null, .null, .int 0, .int 0, .int 0, .int 0, .int 0, .int 0, .int 0, .int 0, .int 0]))] sz) := by
  refine g_met (q_c_Machine_init D h0 x1 x2 x3) (by decide) (Nat.le_of_ble_eq_true rfl) ?_
  intro p e s m below meth c A ls H locs hx hb hr hml hown hg hlocks hin hnw hgk hP hK hD hS hA hl
  have hown : s.vm.findClass RX5 = some m.cls := hown
  have hin : meth.name = "<init>" := hin
  have hl : lv_has ls 4 [(0, .ref h0), (1, .ref x1), (2, .ref x2), (3, .ref x3)] := hl
  refine lv_aload_n hx hb dX5_init_0 rfl (lv_at hl 0 rfl) ?_
  refine W.objInit hx hb hown (hg _ w664) (hg _ w188) (hg _ wobj) rfl (by rw [hml]; exact hl.1) rfl dX5_init_1 (Nat.le_of_ble_eq_true rfl) (Nat.le_of_ble_eq_true rfl) ?_
  refine W.eq (g2 := F0 m 4 ls []) rfl ?_
  refine lv_aload_n hx hb dX5_init_4 rfl (lv_at hl 0 rfl) ?_
  refine lv_sipush (v := 400) hx hb dX5_init_5 (by decide) ?_
  refine va_newq (D := D) (C := RX4) (n := 400) (N' := 400) hx hb hown (hg _ w665) hgk.2.2.2.2.1 hK hP hD hS hA (by decide) (by decide) (by decide) (Nat.le_of_ble_eq_true rfl) (Nat.le_of_ble_eq_true rfl) dX5_init_8 (fun q1 k2 H hK hP hD hS => ?_)
  have hP : va_P D vwCl [(h0, .inr (5, [.null, .null, .null, .null, .null, .null, .int 0, .int 0, .int 0, .int 0, .int 0, .int 0, .int 0, .int 0, .int 0])), (q1, .inl (k2, 400, .inr (.inr (.inr (.inr (fun _ => none))))))] H := hP
  have hD : va_D A [(h0, .inr (5, [.null, .null, .null, .null, .null, .null, .int 0, .int 0, .int 0, .int 0, .int 0, .int 0, .int 0, .int 0, .int 0])), (q1, .inl (k2, 400, .inr (.inr (.inr (.inr (fun _ => none))))))] := hD
  have hK : va_K D vwCl [(k2, .object RX4)] s := hK
  refine va_putF (D := D) (ci := 5) (v := .ref q1) (ty := tyX5 2) (C := RX5) (T := TX5) (N := 15) hx hb hg inX5 tyX5 tyX5_ok nmX5 hown hK hP hD hS 0 rfl rfl 2 (by decide) (hg _ w669) (fun _ h9 => h9) rfl hin rfl (tyX5_ok 2 (by decide)) rfl rfl (Nat.le_of_ble_eq_true rfl) dX5_init_11 (fun H locs hP hD hS => ?_)
  have hP : va_P D vwCl [(h0, .inr (5, [.null, .null, .ref q1, .null, .null, .null, .int 0, .int 0, .int 0, .int 0, .int 0, .int 0, .int 0, .int 0, .int 0])), (q1, .inl (k2, 400, .inr (.inr (.inr (.inr (fun _ => none))))))] H := hP
  have hD : va_D A [(h0, .inr (5, [.null, .null, .ref q1, .null, .null, .null, .int 0, .int 0, .int 0, .int 0, .int 0, .int 0, .int 0, .int 0, .int 0])), (q1, .inl (k2, 400, .inr (.inr (.inr (.inr (fun _ => none))))))] := hD
  refine lv_aload_n hx hb dX5_init_14 rfl (lv_at hl 0 rfl) ?_
  refine lv_sipush (v := 2048) hx hb dX5_init_15 (by decide) ?_
  refine va_newa (D := D) (atype := .int) (ty := .int) (n := 2048) (N' := 2048) (a0 := (2048, .inl (fun _ => 0))) hx hb (hg _ w297) rfl hK hP hD hS hA (fun _ => rfl) (by decide) (by decide) (by decide) (Nat.le_of_ble_eq_true rfl) (Nat.le_of_ble_eq_true rfl) dX5_init_18 (fun q3 k4 H hK hP hD hS => ?_)
  have hP : va_P D vwCl [(h0, .inr (5, [.null, .null, .ref q1, .null, .null, .null, .int 0, .int 0, .int 0, .int 0, .int 0, .int 0, .int 0, .int 0, .int 0])), (q1, .inl (k2, 400, .inr (.inr (.inr (.inr (fun _ => none)))))), (q3, .inl (k4, 2048, .inl (fun _ => 0)))] H := hP
  have hD : va_D A [(h0, .inr (5, [.null, .null, .ref q1, .null, .null, .null, .int 0, .int 0, .int 0, .int 0, .int 0, .int 0, .int 0, .int 0, .int 0])), (q1, .inl (k2, 400, .inr (.inr (.inr (.inr (fun _ => none)))))), (q3, .inl (k4, 2048, .inl (fun _ => 0)))] := hD
  have hK : va_K D vwCl [(k2, .object RX4), (k4, .int)] s := hK
  refine va_putF (D := D) (ci := 5) (v := .ref q3) (ty := tyX5 3) (C := RX5) (T := TX5) (N := 15) hx hb hg inX5 tyX5 tyX5_ok nmX5 hown hK hP hD hS 0 rfl rfl 3 (by decide) (hg _ w670) (fun _ h9 => h9) rfl hin rfl (tyX5_ok 3 (by decide)) rfl rfl (Nat.le_of_ble_eq_true rfl) dX5_init_20 (fun H locs hP hD hS => ?_)
  have hP : va_P D vwCl [(h0, .inr (5, [.null, .null, .ref q1, .ref q3, .null, .null, .int 0, .int 0, .int 0, .int 0, .int 0, .int 0, .int 0, .int 0, .int 0])), (q1, .inl (k2, 400, .inr (.inr (.inr (.inr (fun _ => none)))))), (q3, .inl (k4, 2048, .inl (fun _ => 0)))] H := hP
  have hD : va_D A [(h0, .inr (5, [.null, .null, .ref q1, .ref q3, .null, .null, .int 0, .int 0, .int 0, .int 0, .int 0, .int 0, .int 0, .int 0, .int 0])), (q1, .inl (k2, 400, .inr (.inr (.inr (.inr (fun _ => none)))))), (q3, .inl (k4, 2048, .inl (fun _ => 0)))] := hD
  refine lv_aload_n hx hb dX5_init_23 rfl (lv_at hl 0 rfl) ?_
  refine lv_sipush (v := 300) hx hb dX5_init_24 (by decide) ?_
  refine va_newa (D := D) (atype := .int) (ty := .int) (n := 300) (N' := 300) (a0 := (300, .inl (fun _ => 0))) hx hb (hg _ w297) rfl hK hP hD hS hA (fun _ => rfl) (by decide) (by decide) (by decide) (Nat.le_of_ble_eq_true rfl) (Nat.le_of_ble_eq_true rfl) dX5_init_27 (fun q5 k6 H hK hP hD hS => ?_)
  have hP : va_P D vwCl [(h0, .inr (5, [.null, .null, .ref q1, .ref q3, .null, .null, .int 0, .int 0, .int 0, .int 0, .int 0, .int 0, .int 0, .int 0, .int 0])), (q1, .inl (k2, 400, .inr (.inr (.inr (.inr (fun _ => none)))))), (q3, .inl (k4, 2048, .inl (fun _ => 0))), (q5, .inl (k6, 300, .inl (fun _ => 0)))] H := hP
  have hD : va_D A [(h0, .inr (5, [.null, .null, .ref q1, .ref q3, .null, .null, .int 0, .int 0, .int 0, .int 0, .int 0, .int 0, .int 0, .int 0, .int 0])), (q1, .inl (k2, 400, .inr (.inr (.inr (.inr (fun _ => none)))))), (q3, .inl (k4, 2048, .inl (fun _ => 0))), (q5, .inl (k6, 300, .inl (fun _ => 0)))] := hD
  have hK : va_K D vwCl [(k2, .object RX4), (k4, .int), (k6, .int)] s := hK
  refine va_putF (D := D) (ci := 5) (v := .ref q5) (ty := tyX5 4) (C := RX5) (T := TX5) (N := 15) hx hb hg inX5 tyX5 tyX5_ok nmX5 hown hK hP hD hS 0 rfl rfl 4 (by decide) (hg _ w671) (fun _ h9 => h9) rfl hin rfl (tyX5_ok 4 (by decide)) rfl rfl (Nat.le_of_ble_eq_true rfl) dX5_init_29 (fun H locs hP hD hS => ?_)
  have hP : va_P D vwCl [(h0, .inr (5, [.null, .null, .ref q1, .ref q3, .ref q5, .null, .int 0, .int 0, .int 0, .int 0, .int 0, .int 0, .int 0, .int 0, .int 0])), (q1, .inl (k2, 400, .inr (.inr (.inr (.inr (fun _ => none)))))), (q3, .inl (k4, 2048, .inl (fun _ => 0))), (q5, .inl (k6, 300, .inl (fun _ => 0)))] H := hP
  have hD : va_D A [(h0, .inr (5, [.null, .null, .ref q1, .ref q3, .ref q5, .null, .int 0, .int 0, .int 0, .int 0, .int 0, .int 0, .int 0, .int 0, .int 0])), (q1, .inl (k2, 400, .inr (.inr (.inr (.inr (fun _ => none)))))), (q3, .inl (k4, 2048, .inl (fun _ => 0))), (q5, .inl (k6, 300, .inl (fun _ => 0)))] := hD
  refine lv_aload_n hx hb dX5_init_32 rfl (lv_at hl 0 rfl) ?_
  refine lv_aload_n hx hb dX5_init_33 rfl (lv_at hl 1 rfl) ?_
  refine va_put (D := D) (ci := 5) (v := .ref x1) (ty := tyX5 5) (C := RX5) (T := TX5) (N := 15) hx hb hg inX5 tyX5 tyX5_ok nmX5 hown hK hP hD hS 0 rfl rfl 5 (by decide) (hg _ w672) (fun _ h9 => h9) rfl (tyX5_ok 5 (by decide)) rfl rfl (Nat.le_of_ble_eq_true rfl) dX5_init_34 (fun H locs hP hD hS => ?_)
  have hP : va_P D vwCl [(h0, .inr (5, [.null, .null, .ref q1, .ref q3, .ref q5, .ref x1, .int 0, .int 0, .int 0, .int 0, .int 0, .int 0, .int 0, .int 0, .int 0])), (q1, .inl (k2, 400, .inr (.inr (.inr (.inr (fun _ => none)))))), (q3, .inl (k4, 2048, .inl (fun _ => 0))), (q5, .inl (k6, 300, .inl (fun _ => 0)))] H := hP
  have hD : va_D A [(h0, .inr (5, [.null, .null, .ref q1, .ref q3, .ref q5, .ref x1, .int 0, .int 0, .int 0, .int 0, .int 0, .int 0, .int 0, .int 0, .int 0])), (q1, .inl (k2, 400, .inr (.inr (.inr (.inr (fun _ => none)))))), (q3, .inl (k4, 2048, .inl (fun _ => 0))), (q5, .inl (k6, 300, .inl (fun _ => 0)))] := hD
  refine lv_aload_n hx hb dX5_init_37 rfl (lv_at hl 0 rfl) ?_
  refine lv_aload_n hx hb dX5_init_38 rfl (lv_at hl 2 rfl) ?_
  refine va_putF (D := D) (ci := 5) (v := .ref x2) (ty := tyX5 0) (C := RX5) (T := TX5) (N := 15) hx hb hg inX5 tyX5 tyX5_ok nmX5 hown hK hP hD hS 0 rfl rfl 0 (by decide) (hg _ w667) (fun _ h9 => h9) rfl hin rfl (tyX5_ok 0 (by decide)) rfl rfl (Nat.le_of_ble_eq_true rfl) dX5_init_39 (fun H locs hP hD hS => ?_)
  have hP : va_P D vwCl [(h0, .inr (5, [.ref x2, .null, .ref q1, .ref q3, .ref q5, .ref x1, .int 0, .int 0, .int 0, .int 0, .int 0, .int 0, .int 0, .int 0, .int 0])), (q1, .inl (k2, 400, .inr (.inr (.inr (.inr (fun _ => none)))))), (q3, .inl (k4, 2048, .inl (fun _ => 0))), (q5, .inl (k6, 300, .inl (fun _ => 0)))] H := hP
  have hD : va_D A [(h0, .inr (5, [.ref x2, .null, .ref q1, .ref q3, .ref q5, .ref x1, .int 0, .int 0, .int 0, .int 0, .int 0, .int 0, .int 0, .int 0, .int 0])), (q1, .inl (k2, 400, .inr (.inr (.inr (.inr (fun _ => none)))))), (q3, .inl (k4, 2048, .inl (fun _ => 0))), (q5, .inl (k6, 300, .inl (fun _ => 0)))] := hD
  refine lv_aload_n hx hb dX5_init_42 rfl (lv_at hl 0 rfl) ?_
  refine lv_aload_n hx hb dX5_init_43 rfl (lv_at hl 3 rfl) ?_
  refine va_putF (D := D) (ci := 5) (v := .ref x3) (ty := tyX5 1) (C := RX5) (T := TX5) (N := 15) hx hb hg inX5 tyX5 tyX5_ok nmX5 hown hK hP hD hS 0 rfl rfl 1 (by decide) (hg _ w668) (fun _ h9 => h9) rfl hin rfl (tyX5_ok 1 (by decide)) rfl rfl (Nat.le_of_ble_eq_true rfl) dX5_init_44 (fun H locs hP hD hS => ?_)
  have hP : va_P D vwCl [(h0, .inr (5, [.ref x2, .ref x3, .ref q1, .ref q3, .ref q5, .ref x1, .int 0, .int 0, .int 0, .int 0, .int 0, .int 0, .int 0, .int 0, .int 0])), (q1, .inl (k2, 400, .inr (.inr (.inr (.inr (fun _ => none)))))), (q3, .inl (k4, 2048, .inl (fun _ => 0))), (q5, .inl (k6, 300, .inl (fun _ => 0)))] H := hP
  have hD : va_D A [(h0, .inr (5, [.ref x2, .ref x3, .ref q1, .ref q3, .ref q5, .ref x1, .int 0, .int 0, .int 0, .int 0, .int 0, .int 0, .int 0, .int 0, .int 0])), (q1, .inl (k2, 400, .inr (.inr (.inr (.inr (fun _ => none)))))), (q3, .inl (k4, 2048, .inl (fun _ => 0))), (q5, .inl (k6, 300, .inl (fun _ => 0)))] := hD
  refine W.widen (k := 3) (n := 2748) (Nat.le_of_ble_eq_true rfl) (Nat.le_of_ble_eq_true rfl) ?_
  have hP9 := hP.sub (ws' := [(h0, .inr (5, [.ref x2, .ref x3, .ref q1, .ref q3, .ref q5, .ref x1, .int 0, .int 0, .int 0, .int 0, .int 0, .int 0, .int 0, .int 0, .int 0])), (q1, .inl (k2, 400, .inr (.inr (.inr (.inr (fun _ => none)))))), (q3, .inl (k4, 2048, .inl (fun _ => 0))), (q5, .inl (k6, 300, .inl (fun _ => 0)))]) [0, 1, 2, 3] rfl
  have hD9 := hD.sub (ws' := [(h0, .inr (5, [.ref x2, .ref x3, .ref q1, .ref q3, .ref q5, .ref x1, .int 0, .int 0, .int 0, .int 0, .int 0, .int 0, .int 0, .int 0, .int 0])), (q1, .inl (k2, 400, .inr (.inr (.inr (.inr (fun _ => none)))))), (q3, .inl (k4, 2048, .inl (fun _ => 0))), (q5, .inl (k6, 300, .inl (fun _ => 0)))]) [0, 1, 2, 3] (by decide) rfl
  have hK9 := hK.sub (tys' := [(k2, .object RX4), (k4, .int), (k6, .int)]) [0, 1, 2] rfl
  exact W.vret hx hb hr (fun t ht hW => ⟨⟨(q1, q3, q5, k2, k4, k6), rfl, (by first | rfl | trivial | assumption | decide), by rw [ht]; exact hP9, va_K.moved hW.alike hK9, hD9⟩, hS.F ht⟩) hS.2.2 dX5_init_47
abbrev r_c_Stock_init : Room := { frames := 1, cells := 12, slots := 5744, locals := 23 }
abbrev q_c_Stock_init (D : va_G) (h0 : Nat) (A : Nat → Prop) : Array Value → State → Outcome → State → Prop := va_Qv (fun (u : Nat × Nat × Nat × Nat × Nat × Nat × Nat × Nat × Nat × Nat × Nat × Nat × ClassId × ClassId × ClassId × ClassId × ClassId × ClassId × ClassId × ClassId × ClassId × ClassId × ClassId × ClassId × (Nat → Int32)) => ∀ q : Nat, u.2.2.2.2.2.2.2.2.2.2.2.2.2.2.2.2.2.2.2.2.2.2.2.2 q = if q < 960 then -1 else 0) (fun u t => gq D A ((fun (u : Nat × Nat × Nat × Nat × Nat × Nat × Nat × Nat × Nat × Nat × Nat × Nat × ClassId × ClassId × ClassId × ClassId × ClassId × ClassId × ClassId × ClassId × ClassId × ClassId × ClassId × ClassId × (Nat → Int32)) => [(h0, .inr (8, [.ref u.1, .ref u.2.1, .ref u.2.2.1, .ref u.2.2.2.1, .ref u.2.2.2.2.1, .ref u.2.2.2.2.2.1, .ref u.2.2.2.2.2.2.1, .ref u.2.2.2.2.2.2.2.1, .ref u.2.2.2.2.2.2.2.2.1, .ref u.2.2.2.2.2.2.2.2.2.1, .ref u.2.2.2.2.2.2.2.2.2.2.1, .ref u.2.2.2.2.2.2.2.2.2.2.2.1, .int 1, .int 0, .int 0, .int 0])), (u.1, .inl (u.2.2.2.2.2.2.2.2.2.2.2.2.1, 40, .inl (fun _ => 0))), (u.2.1, .inl (u.2.2.2.2.2.2.2.2.2.2.2.2.2.1, 40, .inl (fun _ => 0))), (u.2.2.1, .inl (u.2.2.2.2.2.2.2.2.2.2.2.2.2.2.1, 40, .inl (upd (fun _ => 0) 0 1))), (u.2.2.2.1, .inl (u.2.2.2.2.2.2.2.2.2.2.2.2.2.2.2.1, 40, .inl (fun _ => 0))), (u.2.2.2.2.1, .inl (u.2.2.2.2.2.2.2.2.2.2.2.2.2.2.2.2.1, 960, .inl (u.2.2.2.2.2.2.2.2.2.2.2.2.2.2.2.2.2.2.2.2.2.2.2.2))), (u.2.2.2.2.2.1, .inl (u.2.2.2.2.2.2.2.2.2.2.2.2.2.2.2.2.2.1, 300, .inl (fun _ => 0))), (u.2.2.2.2.2.2.1, .inl (u.2.2.2.2.2.2.2.2.2.2.2.2.2.2.2.2.2.2.1, 300, .inl (fun _ => 0))), (u.2.2.2.2.2.2.2.1, .inl (u.2.2.2.2.2.2.2.2.2.2.2.2.2.2.2.2.2.2.2.1, 300, .inl (fun _ => 0))), (u.2.2.2.2.2.2.2.2.1, .inl (u.2.2.2.2.2.2.2.2.2.2.2.2.2.2.2.2.2.2.2.2.1, 300, .inl (fun _ => 0))), (u.2.2.2.2.2.2.2.2.2.1, .inl (u.2.2.2.2.2.2.2.2.2.2.2.2.2.2.2.2.2.2.2.2.2.1, 2400, .inl (fun _ => 0))), (u.2.2.2.2.2.2.2.2.2.2.1, .inl (u.2.2.2.2.2.2.2.2.2.2.2.2.2.2.2.2.2.2.2.2.2.2.1, 512, .inl (fun _ => 0))), (u.2.2.2.2.2.2.2.2.2.2.2.1, .inl (u.2.2.2.2.2.2.2.2.2.2.2.2.2.2.2.2.2.2.2.2.2.2.2.1, 512, .inl (fun _ => 0)))]) u) ((fun (u : Nat × Nat × Nat × Nat × Nat × Nat × Nat × Nat × Nat × Nat × Nat × Nat × ClassId × ClassId × ClassId × ClassId × ClassId × ClassId × ClassId × ClassId × ClassId × ClassId × ClassId × ClassId × (Nat → Int32)) => ([(u.2.2.2.2.2.2.2.2.2.2.2.2.1, .int), (u.2.2.2.2.2.2.2.2.2.2.2.2.2.1, .int), (u.2.2.2.2.2.2.2.2.2.2.2.2.2.2.1, .boolean), (u.2.2.2.2.2.2.2.2.2.2.2.2.2.2.2.1, .int), (u.2.2.2.2.2.2.2.2.2.2.2.2.2.2.2.2.1, .int), (u.2.2.2.2.2.2.2.2.2.2.2.2.2.2.2.2.2.1, .int), (u.2.2.2.2.2.2.2.2.2.2.2.2.2.2.2.2.2.2.1, .int), (u.2.2.2.2.2.2.2.2.2.2.2.2.2.2.2.2.2.2.2.1, .int), (u.2.2.2.2.2.2.2.2.2.2.2.2.2.2.2.2.2.2.2.2.1, .int), (u.2.2.2.2.2.2.2.2.2.2.2.2.2.2.2.2.2.2.2.2.2.1, .int), (u.2.2.2.2.2.2.2.2.2.2.2.2.2.2.2.2.2.2.2.2.2.2.1, .int), (u.2.2.2.2.2.2.2.2.2.2.2.2.2.2.2.2.2.2.2.2.2.2.2.1, .int)] : List (ClassId × FieldType))) u) t) A
set_option maxHeartbeats 4000000 in
set_option maxRecDepth 100000 in
theorem c_Stock_init (l : Launch) (D : va_G) (ks : KS) (sz : Nat) (h0 : Nat) : Met l yX8_init (Cond.code yX8_init cX8_init 1 none :: GW) r_c_Stock_init (va_Pc [.ref h0] (gp D ks [(h0, .inr (8, [.null, .null, .null, .null, .null, .null, .null, .null, .null, .null, .null, .null, .int 0, .int 0, .int 0, .int 0]))] [] sz)) (q_c_Stock_init D h0 (va_A [(h0, .inr (8, [.null, .null, .null, .null, .null, .null, .null, .null, .null, .null, .null, .null, .int 0, .int 0, .int 0, .int 0]))] sz)) 12 5744 (va_A [(h0, .inr (8, [.null, .null, .null, .null, .null, .null, .null, .null, .null, .null, .null, .null, .int 0, .int 0, .int 0, .int 0]))] sz) := by
  refine g_met (q_c_Stock_init D h0) (by decide) (Nat.le_of_ble_eq_true rfl) ?_
  intro p e s m below meth c A ls H locs hx hb hr hml hown hg hlocks hin hnw hgk hP hK hD hS hA hl
  have hown : s.vm.findClass RX8 = some m.cls := hown
  have hin : meth.name = "<init>" := hin
  have hl : lv_has ls 1 [(0, .ref h0)] := hl
  refine lv_aload_n hx hb dX8_init_0 rfl (lv_at hl 0 rfl) ?_
  refine W.objInit hx hb hown (hg _ w369) (hg _ w188) (hg _ wobj) rfl (by rw [hml]; exact hl.1) rfl dX8_init_1 (Nat.le_of_ble_eq_true rfl) (Nat.le_of_ble_eq_true rfl) ?_
  refine W.eq (g2 := F0 m 4 ls []) rfl ?_
  refine lv_aload_n hx hb dX8_init_4 rfl (lv_at hl 0 rfl) ?_
  refine lv_bipush (v := 40) hx hb dX8_init_5 (by decide) ?_
  refine va_newa (D := D) (atype := .int) (ty := .int) (n := 40) (N' := 40) (a0 := (40, .inl (fun _ => 0))) hx hb (hg _ w297) rfl hK hP hD hS hA (fun _ => rfl) (by decide) (by decide) (by decide) (Nat.le_of_ble_eq_true rfl) (Nat.le_of_ble_eq_true rfl) dX8_init_7 (fun q1 k2 H hK hP hD hS => ?_)
  have hP : va_P D vwCl [(h0, .inr (8, [.null, .null, .null, .null, .null, .null, .null, .null, .null, .null, .null, .null, .int 0, .int 0, .int 0, .int 0])), (q1, .inl (k2, 40, .inl (fun _ => 0)))] H := hP
  have hD : va_D A [(h0, .inr (8, [.null, .null, .null, .null, .null, .null, .null, .null, .null, .null, .null, .null, .int 0, .int 0, .int 0, .int 0])), (q1, .inl (k2, 40, .inl (fun _ => 0)))] := hD
  have hK : va_K D vwCl [(k2, .int)] s := hK
  refine va_putF (D := D) (ci := 8) (v := .ref q1) (ty := tyX8 0) (C := RX8) (T := TX8) (N := 16) hx hb hg inX8 tyX8 tyX8_ok nmX8 hown hK hP hD hS 0 rfl rfl 0 (by decide) (hg _ w373) (fun _ h9 => h9) rfl hin rfl (tyX8_ok 0 (by decide)) rfl rfl (Nat.le_of_ble_eq_true rfl) dX8_init_9 (fun H locs hP hD hS => ?_)
  have hP : va_P D vwCl [(h0, .inr (8, [.ref q1, .null, .null, .null, .null, .null, .null, .null, .null, .null, .null, .null, .int 0, .int 0, .int 0, .int 0])), (q1, .inl (k2, 40, .inl (fun _ => 0)))] H := hP
  have hD : va_D A [(h0, .inr (8, [.ref q1, .null, .null, .null, .null, .null, .null, .null, .null, .null, .null, .null, .int 0, .int 0, .int 0, .int 0])), (q1, .inl (k2, 40, .inl (fun _ => 0)))] := hD
  refine lv_aload_n hx hb dX8_init_12 rfl (lv_at hl 0 rfl) ?_
  refine lv_bipush (v := 40) hx hb dX8_init_13 (by decide) ?_
  refine va_newa (D := D) (atype := .int) (ty := .int) (n := 40) (N' := 40) (a0 := (40, .inl (fun _ => 0))) hx hb (hg _ w297) rfl hK hP hD hS hA (fun _ => rfl) (by decide) (by decide) (by decide) (Nat.le_of_ble_eq_true rfl) (Nat.le_of_ble_eq_true rfl) dX8_init_15 (fun q3 k4 H hK hP hD hS => ?_)
  have hP : va_P D vwCl [(h0, .inr (8, [.ref q1, .null, .null, .null, .null, .null, .null, .null, .null, .null, .null, .null, .int 0, .int 0, .int 0, .int 0])), (q1, .inl (k2, 40, .inl (fun _ => 0))), (q3, .inl (k4, 40, .inl (fun _ => 0)))] H := hP
  have hD : va_D A [(h0, .inr (8, [.ref q1, .null, .null, .null, .null, .null, .null, .null, .null, .null, .null, .null, .int 0, .int 0, .int 0, .int 0])), (q1, .inl (k2, 40, .inl (fun _ => 0))), (q3, .inl (k4, 40, .inl (fun _ => 0)))] := hD
  have hK : va_K D vwCl [(k2, .int), (k4, .int)] s := hK
  refine va_putF (D := D) (ci := 8) (v := .ref q3) (ty := tyX8 1) (C := RX8) (T := TX8) (N := 16) hx hb hg inX8 tyX8 tyX8_ok nmX8 hown hK hP hD hS 0 rfl rfl 1 (by decide) (hg _ w375) (fun _ h9 => h9) rfl hin rfl (tyX8_ok 1 (by decide)) rfl rfl (Nat.le_of_ble_eq_true rfl) dX8_init_17 (fun H locs hP hD hS => ?_)
  have hP : va_P D vwCl [(h0, .inr (8, [.ref q1, .ref q3, .null, .null, .null, .null, .null, .null, .null, .null, .null, .null, .int 0, .int 0, .int 0, .int 0])), (q1, .inl (k2, 40, .inl (fun _ => 0))), (q3, .inl (k4, 40, .inl (fun _ => 0)))] H := hP
  have hD : va_D A [(h0, .inr (8, [.ref q1, .ref q3, .null, .null, .null, .null, .null, .null, .null, .null, .null, .null, .int 0, .int 0, .int 0, .int 0])), (q1, .inl (k2, 40, .inl (fun _ => 0))), (q3, .inl (k4, 40, .inl (fun _ => 0)))] := hD
  refine lv_aload_n hx hb dX8_init_20 rfl (lv_at hl 0 rfl) ?_
  refine lv_bipush (v := 40) hx hb dX8_init_21 (by decide) ?_
  refine va_newa (D := D) (atype := .boolean) (ty := .boolean) (n := 40) (N' := 40) (a0 := (40, .inl (fun _ => 0))) hx hb (hg _ w428) rfl hK hP hD hS hA (fun _ => rfl) (by decide) (by decide) (by decide) (Nat.le_of_ble_eq_true rfl) (Nat.le_of_ble_eq_true rfl) dX8_init_23 (fun q5 k6 H hK hP hD hS => ?_)
  have hP : va_P D vwCl [(h0, .inr (8, [.ref q1, .ref q3, .null, .null, .null, .null, .null, .null, .null, .null, .null, .null, .int 0, .int 0, .int 0, .int 0])), (q1, .inl (k2, 40, .inl (fun _ => 0))), (q3, .inl (k4, 40, .inl (fun _ => 0))), (q5, .inl (k6, 40, .inl (fun _ => 0)))] H := hP
  have hD : va_D A [(h0, .inr (8, [.ref q1, .ref q3, .null, .null, .null, .null, .null, .null, .null, .null, .null, .null, .int 0, .int 0, .int 0, .int 0])), (q1, .inl (k2, 40, .inl (fun _ => 0))), (q3, .inl (k4, 40, .inl (fun _ => 0))), (q5, .inl (k6, 40, .inl (fun _ => 0)))] := hD
  have hK : va_K D vwCl [(k2, .int), (k4, .int), (k6, .boolean)] s := hK
  refine va_putF (D := D) (ci := 8) (v := .ref q5) (ty := tyX8 2) (C := RX8) (T := TX8) (N := 16) hx hb hg inX8 tyX8 tyX8_ok nmX8 hown hK hP hD hS 0 rfl rfl 2 (by decide) (hg _ w376) (fun _ h9 => h9) rfl hin rfl (tyX8_ok 2 (by decide)) rfl rfl (Nat.le_of_ble_eq_true rfl) dX8_init_25 (fun H locs hP hD hS => ?_)
  have hP : va_P D vwCl [(h0, .inr (8, [.ref q1, .ref q3, .ref q5, .null, .null, .null, .null, .null, .null, .null, .null, .null, .int 0, .int 0, .int 0, .int 0])), (q1, .inl (k2, 40, .inl (fun _ => 0))), (q3, .inl (k4, 40, .inl (fun _ => 0))), (q5, .inl (k6, 40, .inl (fun _ => 0)))] H := hP
  have hD : va_D A [(h0, .inr (8, [.ref q1, .ref q3, .ref q5, .null, .null, .null, .null, .null, .null, .null, .null, .null, .int 0, .int 0, .int 0, .int 0])), (q1, .inl (k2, 40, .inl (fun _ => 0))), (q3, .inl (k4, 40, .inl (fun _ => 0))), (q5, .inl (k6, 40, .inl (fun _ => 0)))] := hD
  refine lv_aload_n hx hb dX8_init_28 rfl (lv_at hl 0 rfl) ?_
  refine lv_bipush (v := 40) hx hb dX8_init_29 (by decide) ?_
  refine va_newa (D := D) (atype := .int) (ty := .int) (n := 40) (N' := 40) (a0 := (40, .inl (fun _ => 0))) hx hb (hg _ w297) rfl hK hP hD hS hA (fun _ => rfl) (by decide) (by decide) (by decide) (Nat.le_of_ble_eq_true rfl) (Nat.le_of_ble_eq_true rfl) dX8_init_31 (fun q7 k8 H hK hP hD hS => ?_)
  have hP : va_P D vwCl [(h0, .inr (8, [.ref q1, .ref q3, .ref q5, .null, .null, .null, .null, .null, .null, .null, .null, .null, .int 0, .int 0, .int 0, .int 0])), (q1, .inl (k2, 40, .inl (fun _ => 0))), (q3, .inl (k4, 40, .inl (fun _ => 0))), (q5, .inl (k6, 40, .inl (fun _ => 0))), (q7, .inl (k8, 40, .inl (fun _ => 0)))] H := hP
  have hD : va_D A [(h0, .inr (8, [.ref q1, .ref q3, .ref q5, .null, .null, .null, .null, .null, .null, .null, .null, .null, .int 0, .int 0, .int 0, .int 0])), (q1, .inl (k2, 40, .inl (fun _ => 0))), (q3, .inl (k4, 40, .inl (fun _ => 0))), (q5, .inl (k6, 40, .inl (fun _ => 0))), (q7, .inl (k8, 40, .inl (fun _ => 0)))] := hD
  have hK : va_K D vwCl [(k2, .int), (k4, .int), (k6, .boolean), (k8, .int)] s := hK
  refine va_putF (D := D) (ci := 8) (v := .ref q7) (ty := tyX8 3) (C := RX8) (T := TX8) (N := 16) hx hb hg inX8 tyX8 tyX8_ok nmX8 hown hK hP hD hS 0 rfl rfl 3 (by decide) (hg _ w377) (fun _ h9 => h9) rfl hin rfl (tyX8_ok 3 (by decide)) rfl rfl (Nat.le_of_ble_eq_true rfl) dX8_init_33 (fun H locs hP hD hS => ?_)
  have hP : va_P D vwCl [(h0, .inr (8, [.ref q1, .ref q3, .ref q5, .ref q7, .null, .null, .null, .null, .null, .null, .null, .null, .int 0, .int 0, .int 0, .int 0])), (q1, .inl (k2, 40, .inl (fun _ => 0))), (q3, .inl (k4, 40, .inl (fun _ => 0))), (q5, .inl (k6, 40, .inl (fun _ => 0))), (q7, .inl (k8, 40, .inl (fun _ => 0)))] H := hP
  have hD : va_D A [(h0, .inr (8, [.ref q1, .ref q3, .ref q5, .ref q7, .null, .null, .null, .null, .null, .null, .null, .null, .int 0, .int 0, .int 0, .int 0])), (q1, .inl (k2, 40, .inl (fun _ => 0))), (q3, .inl (k4, 40, .inl (fun _ => 0))), (q5, .inl (k6, 40, .inl (fun _ => 0))), (q7, .inl (k8, 40, .inl (fun _ => 0)))] := hD
  refine lv_aload_n hx hb dX8_init_36 rfl (lv_at hl 0 rfl) ?_
  refine lv_sipush (v := 960) hx hb dX8_init_37 (by decide) ?_
  refine va_newa (D := D) (atype := .int) (ty := .int) (n := 960) (N' := 960) (a0 := (960, .inl (fun _ => 0))) hx hb (hg _ w297) rfl hK hP hD hS hA (fun _ => rfl) (by decide) (by decide) (by decide) (Nat.le_of_ble_eq_true rfl) (Nat.le_of_ble_eq_true rfl) dX8_init_40 (fun q9 k10 H hK hP hD hS => ?_)
  have hP : va_P D vwCl [(h0, .inr (8, [.ref q1, .ref q3, .ref q5, .ref q7, .null, .null, .null, .null, .null, .null, .null, .null, .int 0, .int 0, .int 0, .int 0])), (q1, .inl (k2, 40, .inl (fun _ => 0))), (q3, .inl (k4, 40, .inl (fun _ => 0))), (q5, .inl (k6, 40, .inl (fun _ => 0))), (q7, .inl (k8, 40, .inl (fun _ => 0))), (q9, .inl (k10, 960, .inl (fun _ => 0)))] H := hP
  have hD : va_D A [(h0, .inr (8, [.ref q1, .ref q3, .ref q5, .ref q7, .null, .null, .null, .null, .null, .null, .null, .null, .int 0, .int 0, .int 0, .int 0])), (q1, .inl (k2, 40, .inl (fun _ => 0))), (q3, .inl (k4, 40, .inl (fun _ => 0))), (q5, .inl (k6, 40, .inl (fun _ => 0))), (q7, .inl (k8, 40, .inl (fun _ => 0))), (q9, .inl (k10, 960, .inl (fun _ => 0)))] := hD
  have hK : va_K D vwCl [(k2, .int), (k4, .int), (k6, .boolean), (k8, .int), (k10, .int)] s := hK
  refine va_putF (D := D) (ci := 8) (v := .ref q9) (ty := tyX8 4) (C := RX8) (T := TX8) (N := 16) hx hb hg inX8 tyX8 tyX8_ok nmX8 hown hK hP hD hS 0 rfl rfl 4 (by decide) (hg _ w378) (fun _ h9 => h9) rfl hin rfl (tyX8_ok 4 (by decide)) rfl rfl (Nat.le_of_ble_eq_true rfl) dX8_init_42 (fun H locs hP hD hS => ?_)
  have hP : va_P D vwCl [(h0, .inr (8, [.ref q1, .ref q3, .ref q5, .ref q7, .ref q9, .null, .null, .null, .null, .null, .null, .null, .int 0, .int 0, .int 0, .int 0])), (q1, .inl (k2, 40, .inl (fun _ => 0))), (q3, .inl (k4, 40, .inl (fun _ => 0))), (q5, .inl (k6, 40, .inl (fun _ => 0))), (q7, .inl (k8, 40, .inl (fun _ => 0))), (q9, .inl (k10, 960, .inl (fun _ => 0)))] H := hP
  have hD : va_D A [(h0, .inr (8, [.ref q1, .ref q3, .ref q5, .ref q7, .ref q9, .null, .null, .null, .null, .null, .null, .null, .int 0, .int 0, .int 0, .int 0])), (q1, .inl (k2, 40, .inl (fun _ => 0))), (q3, .inl (k4, 40, .inl (fun _ => 0))), (q5, .inl (k6, 40, .inl (fun _ => 0))), (q7, .inl (k8, 40, .inl (fun _ => 0))), (q9, .inl (k10, 960, .inl (fun _ => 0)))] := hD
  refine lv_aload_n hx hb dX8_init_45 rfl (lv_at hl 0 rfl) ?_
  refine lv_sipush (v := 300) hx hb dX8_init_46 (by decide) ?_
  refine va_newa (D := D) (atype := .int) (ty := .int) (n := 300) (N' := 300) (a0 := (300, .inl (fun _ => 0))) hx hb (hg _ w297) rfl hK hP hD hS hA (fun _ => rfl) (by decide) (by decide) (by decide) (Nat.le_of_ble_eq_true rfl) (Nat.le_of_ble_eq_true rfl) dX8_init_49 (fun q11 k12 H hK hP hD hS => ?_)
  have hP : va_P D vwCl [(h0, .inr (8, [.ref q1, .ref q3, .ref q5, .ref q7, .ref q9, .null, .null, .null, .null, .null, .null, .null, .int 0, .int 0, .int 0, .int 0])), (q1, .inl (k2, 40, .inl (fun _ => 0))), (q3, .inl (k4, 40, .inl (fun _ => 0))), (q5, .inl (k6, 40, .inl (fun _ => 0))), (q7, .inl (k8, 40, .inl (fun _ => 0))), (q9, .inl (k10, 960, .inl (fun _ => 0))), (q11, .inl (k12, 300, .inl (fun _ => 0)))] H := hP
  have hD : va_D A [(h0, .inr (8, [.ref q1, .ref q3, .ref q5, .ref q7, .ref q9, .null, .null, .null, .null, .null, .null, .null, .int 0, .int 0, .int 0, .int 0])), (q1, .inl (k2, 40, .inl (fun _ => 0))), (q3, .inl (k4, 40, .inl (fun _ => 0))), (q5, .inl (k6, 40, .inl (fun _ => 0))), (q7, .inl (k8, 40, .inl (fun _ => 0))), (q9, .inl (k10, 960, .inl (fun _ => 0))), (q11, .inl (k12, 300, .inl (fun _ => 0)))] := hD
  have hK : va_K D vwCl [(k2, .int), (k4, .int), (k6, .boolean), (k8, .int), (k10, .int), (k12, .int)] s := hK
  refine va_putF (D := D) (ci := 8) (v := .ref q11) (ty := tyX8 5) (C := RX8) (T := TX8) (N := 16) hx hb hg inX8 tyX8 tyX8_ok nmX8 hown hK hP hD hS 0 rfl rfl 5 (by decide) (hg _ w379) (fun _ h9 => h9) rfl hin rfl (tyX8_ok 5 (by decide)) rfl rfl (Nat.le_of_ble_eq_true rfl) dX8_init_51 (fun H locs hP hD hS => ?_)
  have hP : va_P D vwCl [(h0, .inr (8, [.ref q1, .ref q3, .ref q5, .ref q7, .ref q9, .ref q11, .null, .null, .null, .null, .null, .null, .int 0, .int 0, .int 0, .int 0])), (q1, .inl (k2, 40, .inl (fun _ => 0))), (q3, .inl (k4, 40, .inl (fun _ => 0))), (q5, .inl (k6, 40, .inl (fun _ => 0))), (q7, .inl (k8, 40, .inl (fun _ => 0))), (q9, .inl (k10, 960, .inl (fun _ => 0))), (q11, .inl (k12, 300, .inl (fun _ => 0)))] H := hP
  have hD : va_D A [(h0, .inr (8, [.ref q1, .ref q3, .ref q5, .ref q7, .ref q9, .ref q11, .null, .null, .null, .null, .null, .null, .int 0, .int 0, .int 0, .int 0])), (q1, .inl (k2, 40, .inl (fun _ => 0))), (q3, .inl (k4, 40, .inl (fun _ => 0))), (q5, .inl (k6, 40, .inl (fun _ => 0))), (q7, .inl (k8, 40, .inl (fun _ => 0))), (q9, .inl (k10, 960, .inl (fun _ => 0))), (q11, .inl (k12, 300, .inl (fun _ => 0)))] := hD
  refine lv_aload_n hx hb dX8_init_54 rfl (lv_at hl 0 rfl) ?_
  refine lv_sipush (v := 300) hx hb dX8_init_55 (by decide) ?_
  refine va_newa (D := D) (atype := .int) (ty := .int) (n := 300) (N' := 300) (a0 := (300, .inl (fun _ => 0))) hx hb (hg _ w297) rfl hK hP hD hS hA (fun _ => rfl) (by decide) (by decide) (by decide) (Nat.le_of_ble_eq_true rfl) (Nat.le_of_ble_eq_true rfl) dX8_init_58 (fun q13 k14 H hK hP hD hS => ?_)
  have hP : va_P D vwCl [(h0, .inr (8, [.ref q1, .ref q3, .ref q5, .ref q7, .ref q9, .ref q11, .null, .null, .null, .null, .null, .null, .int 0, .int 0, .int 0, .int 0])), (q1, .inl (k2, 40, .inl (fun _ => 0))), (q3, .inl (k4, 40, .inl (fun _ => 0))), (q5, .inl (k6, 40, .inl (fun _ => 0))), (q7, .inl (k8, 40, .inl (fun _ => 0))), (q9, .inl (k10, 960, .inl (fun _ => 0))), (q11, .inl (k12, 300, .inl (fun _ => 0))), (q13, .inl (k14, 300, .inl (fun _ => 0)))] H := hP
  have hD : va_D A [(h0, .inr (8, [.ref q1, .ref q3, .ref q5, .ref q7, .ref q9, .ref q11, .null, .null, .null, .null, .null, .null, .int 0, .int 0, .int 0, .int 0])), (q1, .inl (k2, 40, .inl (fun _ => 0))), (q3, .inl (k4, 40, .inl (fun _ => 0))), (q5, .inl (k6, 40, .inl (fun _ => 0))), (q7, .inl (k8, 40, .inl (fun _ => 0))), (q9, .inl (k10, 960, .inl (fun _ => 0))), (q11, .inl (k12, 300, .inl (fun _ => 0))), (q13, .inl (k14, 300, .inl (fun _ => 0)))] := hD
  have hK : va_K D vwCl [(k2, .int), (k4, .int), (k6, .boolean), (k8, .int), (k10, .int), (k12, .int), (k14, .int)] s := hK
  refine va_putF (D := D) (ci := 8) (v := .ref q13) (ty := tyX8 6) (C := RX8) (T := TX8) (N := 16) hx hb hg inX8 tyX8 tyX8_ok nmX8 hown hK hP hD hS 0 rfl rfl 6 (by decide) (hg _ w381) (fun _ h9 => h9) rfl hin rfl (tyX8_ok 6 (by decide)) rfl rfl (Nat.le_of_ble_eq_true rfl) dX8_init_60 (fun H locs hP hD hS => ?_)
  have hP : va_P D vwCl [(h0, .inr (8, [.ref q1, .ref q3, .ref q5, .ref q7, .ref q9, .ref q11, .ref q13, .null, .null, .null, .null, .null, .int 0, .int 0, .int 0, .int 0])), (q1, .inl (k2, 40, .inl (fun _ => 0))), (q3, .inl (k4, 40, .inl (fun _ => 0))), (q5, .inl (k6, 40, .inl (fun _ => 0))), (q7, .inl (k8, 40, .inl (fun _ => 0))), (q9, .inl (k10, 960, .inl (fun _ => 0))), (q11, .inl (k12, 300, .inl (fun _ => 0))), (q13, .inl (k14, 300, .inl (fun _ => 0)))] H := hP
  have hD : va_D A [(h0, .inr (8, [.ref q1, .ref q3, .ref q5, .ref q7, .ref q9, .ref q11, .ref q13, .null, .null, .null, .null, .null, .int 0, .int 0, .int 0, .int 0])), (q1, .inl (k2, 40, .inl (fun _ => 0))), (q3, .inl (k4, 40, .inl (fun _ => 0))), (q5, .inl (k6, 40, .inl (fun _ => 0))), (q7, .inl (k8, 40, .inl (fun _ => 0))), (q9, .inl (k10, 960, .inl (fun _ => 0))), (q11, .inl (k12, 300, .inl (fun _ => 0))), (q13, .inl (k14, 300, .inl (fun _ => 0)))] := hD
  refine lv_aload_n hx hb dX8_init_63 rfl (lv_at hl 0 rfl) ?_
  refine lv_sipush (v := 300) hx hb dX8_init_64 (by decide) ?_
  refine va_newa (D := D) (atype := .int) (ty := .int) (n := 300) (N' := 300) (a0 := (300, .inl (fun _ => 0))) hx hb (hg _ w297) rfl hK hP hD hS hA (fun _ => rfl) (by decide) (by decide) (by decide) (Nat.le_of_ble_eq_true rfl) (Nat.le_of_ble_eq_true rfl) dX8_init_67 (fun q15 k16 H hK hP hD hS => ?_)
  have hP : va_P D vwCl [(h0, .inr (8, [.ref q1, .ref q3, .ref q5, .ref q7, .ref q9, .ref q11, .ref q13, .null, .null, .null, .null, .null, .int 0, .int 0, .int 0, .int 0])), (q1, .inl (k2, 40, .inl (fun _ => 0))), (q3, .inl (k4, 40, .inl (fun _ => 0))), (q5, .inl (k6, 40, .inl (fun _ => 0))), (q7, .inl (k8, 40, .inl (fun _ => 0))), (q9, .inl (k10, 960, .inl (fun _ => 0))), (q11, .inl (k12, 300, .inl (fun _ => 0))), (q13, .inl (k14, 300, .inl (fun _ => 0))), (q15, .inl (k16, 300, .inl (fun _ => 0)))] H := hP
  have hD : va_D A [(h0, .inr (8, [.ref q1, .ref q3, .ref q5, .ref q7, .ref q9, .ref q11, .ref q13, .null, .null, .null, .null, .null, .int 0, .int 0, .int 0, .int 0])), (q1, .inl (k2, 40, .inl (fun _ => 0))), (q3, .inl (k4, 40, .inl (fun _ => 0))), (q5, .inl (k6, 40, .inl (fun _ => 0))), (q7, .inl (k8, 40, .inl (fun _ => 0))), (q9, .inl (k10, 960, .inl (fun _ => 0))), (q11, .inl (k12, 300, .inl (fun _ => 0))), (q13, .inl (k14, 300, .inl (fun _ => 0))), (q15, .inl (k16, 300, .inl (fun _ => 0)))] := hD
  have hK : va_K D vwCl [(k2, .int), (k4, .int), (k6, .boolean), (k8, .int), (k10, .int), (k12, .int), (k14, .int), (k16, .int)] s := hK
  refine va_putF (D := D) (ci := 8) (v := .ref q15) (ty := tyX8 7) (C := RX8) (T := TX8) (N := 16) hx hb hg inX8 tyX8 tyX8_ok nmX8 hown hK hP hD hS 0 rfl rfl 7 (by decide) (hg _ w384) (fun _ h9 => h9) rfl hin rfl (tyX8_ok 7 (by decide)) rfl rfl (Nat.le_of_ble_eq_true rfl) dX8_init_69 (fun H locs hP hD hS => ?_)
  have hP : va_P D vwCl [(h0, .inr (8, [.ref q1, .ref q3, .ref q5, .ref q7, .ref q9, .ref q11, .ref q13, .ref q15, .null, .null, .null, .null, .int 0, .int 0, .int 0, .int 0])), (q1, .inl (k2, 40, .inl (fun _ => 0))), (q3, .inl (k4, 40, .inl (fun _ => 0))), (q5, .inl (k6, 40, .inl (fun _ => 0))), (q7, .inl (k8, 40, .inl (fun _ => 0))), (q9, .inl (k10, 960, .inl (fun _ => 0))), (q11, .inl (k12, 300, .inl (fun _ => 0))), (q13, .inl (k14, 300, .inl (fun _ => 0))), (q15, .inl (k16, 300, .inl (fun _ => 0)))] H := hP
  have hD : va_D A [(h0, .inr (8, [.ref q1, .ref q3, .ref q5, .ref q7, .ref q9, .ref q11, .ref q13, .ref q15, .null, .null, .null, .null, .int 0, .int 0, .int 0, .int 0])), (q1, .inl (k2, 40, .inl (fun _ => 0))), (q3, .inl (k4, 40, .inl (fun _ => 0))), (q5, .inl (k6, 40, .inl (fun _ => 0))), (q7, .inl (k8, 40, .inl (fun _ => 0))), (q9, .inl (k10, 960, .inl (fun _ => 0))), (q11, .inl (k12, 300, .inl (fun _ => 0))), (q13, .inl (k14, 300, .inl (fun _ => 0))), (q15, .inl (k16, 300, .inl (fun _ => 0)))] := hD
  refine lv_aload_n hx hb dX8_init_72 rfl (lv_at hl 0 rfl) ?_
  refine lv_sipush (v := 300) hx hb dX8_init_73 (by decide) ?_
  refine va_newa (D := D) (atype := .int) (ty := .int) (n := 300) (N' := 300) (a0 := (300, .inl (fun _ => 0))) hx hb (hg _ w297) rfl hK hP hD hS hA (fun _ => rfl) (by decide) (by decide) (by decide) (Nat.le_of_ble_eq_true rfl) (Nat.le_of_ble_eq_true rfl) dX8_init_76 (fun q17 k18 H hK hP hD hS => ?_)
  have hP : va_P D vwCl [(h0, .inr (8, [.ref q1, .ref q3, .ref q5, .ref q7, .ref q9, .ref q11, .ref q13, .ref q15, .null, .null, .null, .null, .int 0, .int 0, .int 0, .int 0])), (q1, .inl (k2, 40, .inl (fun _ => 0))), (q3, .inl (k4, 40, .inl (fun _ => 0))), (q5, .inl (k6, 40, .inl (fun _ => 0))), (q7, .inl (k8, 40, .inl (fun _ => 0))), (q9, .inl (k10, 960, .inl (fun _ => 0))), (q11, .inl (k12, 300, .inl (fun _ => 0))), (q13, .inl (k14, 300, .inl (fun _ => 0))), (q15, .inl (k16, 300, .inl (fun _ => 0))), (q17, .inl (k18, 300, .inl (fun _ => 0)))] H := hP
  have hD : va_D A [(h0, .inr (8, [.ref q1, .ref q3, .ref q5, .ref q7, .ref q9, .ref q11, .ref q13, .ref q15, .null, .null, .null, .null, .int 0, .int 0, .int 0, .int 0])), (q1, .inl (k2, 40, .inl (fun _ => 0))), (q3, .inl (k4, 40, .inl (fun _ => 0))), (q5, .inl (k6, 40, .inl (fun _ => 0))), (q7, .inl (k8, 40, .inl (fun _ => 0))), (q9, .inl (k10, 960, .inl (fun _ => 0))), (q11, .inl (k12, 300, .inl (fun _ => 0))), (q13, .inl (k14, 300, .inl (fun _ => 0))), (q15, .inl (k16, 300, .inl (fun _ => 0))), (q17, .inl (k18, 300, .inl (fun _ => 0)))] := hD
  have hK : va_K D vwCl [(k2, .int), (k4, .int), (k6, .boolean), (k8, .int), (k10, .int), (k12, .int), (k14, .int), (k16, .int), (k18, .int)] s := hK
  refine va_putF (D := D) (ci := 8) (v := .ref q17) (ty := tyX8 8) (C := RX8) (T := TX8) (N := 16) hx hb hg inX8 tyX8 tyX8_ok nmX8 hown hK hP hD hS 0 rfl rfl 8 (by decide) (hg _ w386) (fun _ h9 => h9) rfl hin rfl (tyX8_ok 8 (by decide)) rfl rfl (Nat.le_of_ble_eq_true rfl) dX8_init_78 (fun H locs hP hD hS => ?_)
  have hP : va_P D vwCl [(h0, .inr (8, [.ref q1, .ref q3, .ref q5, .ref q7, .ref q9, .ref q11, .ref q13, .ref q15, .ref q17, .null, .null, .null, .int 0, .int 0, .int 0, .int 0])), (q1, .inl (k2, 40, .inl (fun _ => 0))), (q3, .inl (k4, 40, .inl (fun _ => 0))), (q5, .inl (k6, 40, .inl (fun _ => 0))), (q7, .inl (k8, 40, .inl (fun _ => 0))), (q9, .inl (k10, 960, .inl (fun _ => 0))), (q11, .inl (k12, 300, .inl (fun _ => 0))), (q13, .inl (k14, 300, .inl (fun _ => 0))), (q15, .inl (k16, 300, .inl (fun _ => 0))), (q17, .inl (k18, 300, .inl (fun _ => 0)))] H := hP
  have hD : va_D A [(h0, .inr (8, [.ref q1, .ref q3, .ref q5, .ref q7, .ref q9, .ref q11, .ref q13, .ref q15, .ref q17, .null, .null, .null, .int 0, .int 0, .int 0, .int 0])), (q1, .inl (k2, 40, .inl (fun _ => 0))), (q3, .inl (k4, 40, .inl (fun _ => 0))), (q5, .inl (k6, 40, .inl (fun _ => 0))), (q7, .inl (k8, 40, .inl (fun _ => 0))), (q9, .inl (k10, 960, .inl (fun _ => 0))), (q11, .inl (k12, 300, .inl (fun _ => 0))), (q13, .inl (k14, 300, .inl (fun _ => 0))), (q15, .inl (k16, 300, .inl (fun _ => 0))), (q17, .inl (k18, 300, .inl (fun _ => 0)))] := hD
  refine lv_aload_n hx hb dX8_init_81 rfl (lv_at hl 0 rfl) ?_
  refine lv_sipush (v := 2400) hx hb dX8_init_82 (by decide) ?_
  refine va_newa (D := D) (atype := .int) (ty := .int) (n := 2400) (N' := 2400) (a0 := (2400, .inl (fun _ => 0))) hx hb (hg _ w297) rfl hK hP hD hS hA (fun _ => rfl) (by decide) (by decide) (by decide) (Nat.le_of_ble_eq_true rfl) (Nat.le_of_ble_eq_true rfl) dX8_init_85 (fun q19 k20 H hK hP hD hS => ?_)
  have hP : va_P D vwCl [(h0, .inr (8, [.ref q1, .ref q3, .ref q5, .ref q7, .ref q9, .ref q11, .ref q13, .ref q15, .ref q17, .null, .null, .null, .int 0, .int 0, .int 0, .int 0])), (q1, .inl (k2, 40, .inl (fun _ => 0))), (q3, .inl (k4, 40, .inl (fun _ => 0))), (q5, .inl (k6, 40, .inl (fun _ => 0))), (q7, .inl (k8, 40, .inl (fun _ => 0))), (q9, .inl (k10, 960, .inl (fun _ => 0))), (q11, .inl (k12, 300, .inl (fun _ => 0))), (q13, .inl (k14, 300, .inl (fun _ => 0))), (q15, .inl (k16, 300, .inl (fun _ => 0))), (q17, .inl (k18, 300, .inl (fun _ => 0))), (q19, .inl (k20, 2400, .inl (fun _ => 0)))] H := hP
  have hD : va_D A [(h0, .inr (8, [.ref q1, .ref q3, .ref q5, .ref q7, .ref q9, .ref q11, .ref q13, .ref q15, .ref q17, .null, .null, .null, .int 0, .int 0, .int 0, .int 0])), (q1, .inl (k2, 40, .inl (fun _ => 0))), (q3, .inl (k4, 40, .inl (fun _ => 0))), (q5, .inl (k6, 40, .inl (fun _ => 0))), (q7, .inl (k8, 40, .inl (fun _ => 0))), (q9, .inl (k10, 960, .inl (fun _ => 0))), (q11, .inl (k12, 300, .inl (fun _ => 0))), (q13, .inl (k14, 300, .inl (fun _ => 0))), (q15, .inl (k16, 300, .inl (fun _ => 0))), (q17, .inl (k18, 300, .inl (fun _ => 0))), (q19, .inl (k20, 2400, .inl (fun _ => 0)))] := hD
  have hK : va_K D vwCl [(k2, .int), (k4, .int), (k6, .boolean), (k8, .int), (k10, .int), (k12, .int), (k14, .int), (k16, .int), (k18, .int), (k20, .int)] s := hK
  refine va_putF (D := D) (ci := 8) (v := .ref q19) (ty := tyX8 9) (C := RX8) (T := TX8) (N := 16) hx hb hg inX8 tyX8 tyX8_ok nmX8 hown hK hP hD hS 0 rfl rfl 9 (by decide) (hg _ w387) (fun _ h9 => h9) rfl hin rfl (tyX8_ok 9 (by decide)) rfl rfl (Nat.le_of_ble_eq_true rfl) dX8_init_87 (fun H locs hP hD hS => ?_)
  have hP : va_P D vwCl [(h0, .inr (8, [.ref q1, .ref q3, .ref q5, .ref q7, .ref q9, .ref q11, .ref q13, .ref q15, .ref q17, .ref q19, .null, .null, .int 0, .int 0, .int 0, .int 0])), (q1, .inl (k2, 40, .inl (fun _ => 0))), (q3, .inl (k4, 40, .inl (fun _ => 0))), (q5, .inl (k6, 40, .inl (fun _ => 0))), (q7, .inl (k8, 40, .inl (fun _ => 0))), (q9, .inl (k10, 960, .inl (fun _ => 0))), (q11, .inl (k12, 300, .inl (fun _ => 0))), (q13, .inl (k14, 300, .inl (fun _ => 0))), (q15, .inl (k16, 300, .inl (fun _ => 0))), (q17, .inl (k18, 300, .inl (fun _ => 0))), (q19, .inl (k20, 2400, .inl (fun _ => 0)))] H := hP
  have hD : va_D A [(h0, .inr (8, [.ref q1, .ref q3, .ref q5, .ref q7, .ref q9, .ref q11, .ref q13, .ref q15, .ref q17, .ref q19, .null, .null, .int 0, .int 0, .int 0, .int 0])), (q1, .inl (k2, 40, .inl (fun _ => 0))), (q3, .inl (k4, 40, .inl (fun _ => 0))), (q5, .inl (k6, 40, .inl (fun _ => 0))), (q7, .inl (k8, 40, .inl (fun _ => 0))), (q9, .inl (k10, 960, .inl (fun _ => 0))), (q11, .inl (k12, 300, .inl (fun _ => 0))), (q13, .inl (k14, 300, .inl (fun _ => 0))), (q15, .inl (k16, 300, .inl (fun _ => 0))), (q17, .inl (k18, 300, .inl (fun _ => 0))), (q19, .inl (k20, 2400, .inl (fun _ => 0)))] := hD
  refine lv_aload_n hx hb dX8_init_90 rfl (lv_at hl 0 rfl) ?_
  refine lv_sipush (v := 512) hx hb dX8_init_91 (by decide) ?_
  refine va_newa (D := D) (atype := .int) (ty := .int) (n := 512) (N' := 512) (a0 := (512, .inl (fun _ => 0))) hx hb (hg _ w297) rfl hK hP hD hS hA (fun _ => rfl) (by decide) (by decide) (by decide) (Nat.le_of_ble_eq_true rfl) (Nat.le_of_ble_eq_true rfl) dX8_init_94 (fun q21 k22 H hK hP hD hS => ?_)
  have hP : va_P D vwCl [(h0, .inr (8, [.ref q1, .ref q3, .ref q5, .ref q7, .ref q9, .ref q11, .ref q13, .ref q15, .ref q17, .ref q19, .null, .null, .int 0, .int 0, .int 0, .int 0])), (q1, .inl (k2, 40, .inl (fun _ => 0))), (q3, .inl (k4, 40, .inl (fun _ => 0))), (q5, .inl (k6, 40, .inl (fun _ => 0))), (q7, .inl (k8, 40, .inl (fun _ => 0))), (q9, .inl (k10, 960, .inl (fun _ => 0))), (q11, .inl (k12, 300, .inl (fun _ => 0))), (q13, .inl (k14, 300, .inl (fun _ => 0))), (q15, .inl (k16, 300, .inl (fun _ => 0))), (q17, .inl (k18, 300, .inl (fun _ => 0))), (q19, .inl (k20, 2400, .inl (fun _ => 0))), (q21, .inl (k22, 512, .inl (fun _ => 0)))] H := hP
  have hD : va_D A [(h0, .inr (8, [.ref q1, .ref q3, .ref q5, .ref q7, .ref q9, .ref q11, .ref q13, .ref q15, .ref q17, .ref q19, .null, .null, .int 0, .int 0, .int 0, .int 0])), (q1, .inl (k2, 40, .inl (fun _ => 0))), (q3, .inl (k4, 40, .inl (fun _ => 0))), (q5, .inl (k6, 40, .inl (fun _ => 0))), (q7, .inl (k8, 40, .inl (fun _ => 0))), (q9, .inl (k10, 960, .inl (fun _ => 0))), (q11, .inl (k12, 300, .inl (fun _ => 0))), (q13, .inl (k14, 300, .inl (fun _ => 0))), (q15, .inl (k16, 300, .inl (fun _ => 0))), (q17, .inl (k18, 300, .inl (fun _ => 0))), (q19, .inl (k20, 2400, .inl (fun _ => 0))), (q21, .inl (k22, 512, .inl (fun _ => 0)))] := hD
  have hK : va_K D vwCl [(k2, .int), (k4, .int), (k6, .boolean), (k8, .int), (k10, .int), (k12, .int), (k14, .int), (k16, .int), (k18, .int), (k20, .int), (k22, .int)] s := hK
  refine va_put (D := D) (ci := 8) (v := .ref q21) (ty := tyX8 10) (C := RX8) (T := TX8) (N := 16) hx hb hg inX8 tyX8 tyX8_ok nmX8 hown hK hP hD hS 0 rfl rfl 10 (by decide) (hg _ w388) (fun _ h9 => h9) rfl (tyX8_ok 10 (by decide)) rfl rfl (Nat.le_of_ble_eq_true rfl) dX8_init_96 (fun H locs hP hD hS => ?_)
  have hP : va_P D vwCl [(h0, .inr (8, [.ref q1, .ref q3, .ref q5, .ref q7, .ref q9, .ref q11, .ref q13, .ref q15, .ref q17, .ref q19, .ref q21, .null, .int 0, .int 0, .int 0, .int 0])), (q1, .inl (k2, 40, .inl (fun _ => 0))), (q3, .inl (k4, 40, .inl (fun _ => 0))), (q5, .inl (k6, 40, .inl (fun _ => 0))), (q7, .inl (k8, 40, .inl (fun _ => 0))), (q9, .inl (k10, 960, .inl (fun _ => 0))), (q11, .inl (k12, 300, .inl (fun _ => 0))), (q13, .inl (k14, 300, .inl (fun _ => 0))), (q15, .inl (k16, 300, .inl (fun _ => 0))), (q17, .inl (k18, 300, .inl (fun _ => 0))), (q19, .inl (k20, 2400, .inl (fun _ => 0))), (q21, .inl (k22, 512, .inl (fun _ => 0)))] H := hP
  have hD : va_D A [(h0, .inr (8, [.ref q1, .ref q3, .ref q5, .ref q7, .ref q9, .ref q11, .ref q13, .ref q15, .ref q17, .ref q19, .ref q21, .null, .int 0, .int 0, .int 0, .int 0])), (q1, .inl (k2, 40, .inl (fun _ => 0))), (q3, .inl (k4, 40, .inl (fun _ => 0))), (q5, .inl (k6, 40, .inl (fun _ => 0))), (q7, .inl (k8, 40, .inl (fun _ => 0))), (q9, .inl (k10, 960, .inl (fun _ => 0))), (q11, .inl (k12, 300, .inl (fun _ => 0))), (q13, .inl (k14, 300, .inl (fun _ => 0))), (q15, .inl (k16, 300, .inl (fun _ => 0))), (q17, .inl (k18, 300, .inl (fun _ => 0))), (q19, .inl (k20, 2400, .inl (fun _ => 0))), (q21, .inl (k22, 512, .inl (fun _ => 0)))] := hD
  refine lv_aload_n hx hb dX8_init_99 rfl (lv_at hl 0 rfl) ?_
  refine lv_sipush (v := 512) hx hb dX8_init_100 (by decide) ?_
  refine va_newa (D := D) (atype := .int) (ty := .int) (n := 512) (N' := 512) (a0 := (512, .inl (fun _ => 0))) hx hb (hg _ w297) rfl hK hP hD hS hA (fun _ => rfl) (by decide) (by decide) (by decide) (Nat.le_of_ble_eq_true rfl) (Nat.le_of_ble_eq_true rfl) dX8_init_103 (fun q23 k24 H hK hP hD hS => ?_)
  have hP : va_P D vwCl [(h0, .inr (8, [.ref q1, .ref q3, .ref q5, .ref q7, .ref q9, .ref q11, .ref q13, .ref q15, .ref q17, .ref q19, .ref q21, .null, .int 0, .int 0, .int 0, .int 0])), (q1, .inl (k2, 40, .inl (fun _ => 0))), (q3, .inl (k4, 40, .inl (fun _ => 0))), (q5, .inl (k6, 40, .inl (fun _ => 0))), (q7, .inl (k8, 40, .inl (fun _ => 0))), (q9, .inl (k10, 960, .inl (fun _ => 0))), (q11, .inl (k12, 300, .inl (fun _ => 0))), (q13, .inl (k14, 300, .inl (fun _ => 0))), (q15, .inl (k16, 300, .inl (fun _ => 0))), (q17, .inl (k18, 300, .inl (fun _ => 0))), (q19, .inl (k20, 2400, .inl (fun _ => 0))), (q21, .inl (k22, 512, .inl (fun _ => 0))), (q23, .inl (k24, 512, .inl (fun _ => 0)))] H := hP
  have hD : va_D A [(h0, .inr (8, [.ref q1, .ref q3, .ref q5, .ref q7, .ref q9, .ref q11, .ref q13, .ref q15, .ref q17, .ref q19, .ref q21, .null, .int 0, .int 0, .int 0, .int 0])), (q1, .inl (k2, 40, .inl (fun _ => 0))), (q3, .inl (k4, 40, .inl (fun _ => 0))), (q5, .inl (k6, 40, .inl (fun _ => 0))), (q7, .inl (k8, 40, .inl (fun _ => 0))), (q9, .inl (k10, 960, .inl (fun _ => 0))), (q11, .inl (k12, 300, .inl (fun _ => 0))), (q13, .inl (k14, 300, .inl (fun _ => 0))), (q15, .inl (k16, 300, .inl (fun _ => 0))), (q17, .inl (k18, 300, .inl (fun _ => 0))), (q19, .inl (k20, 2400, .inl (fun _ => 0))), (q21, .inl (k22, 512, .inl (fun _ => 0))), (q23, .inl (k24, 512, .inl (fun _ => 0)))] := hD
  have hK : va_K D vwCl [(k2, .int), (k4, .int), (k6, .boolean), (k8, .int), (k10, .int), (k12, .int), (k14, .int), (k16, .int), (k18, .int), (k20, .int), (k22, .int), (k24, .int)] s := hK
  refine va_put (D := D) (ci := 8) (v := .ref q23) (ty := tyX8 11) (C := RX8) (T := TX8) (N := 16) hx hb hg inX8 tyX8 tyX8_ok nmX8 hown hK hP hD hS 0 rfl rfl 11 (by decide) (hg _ w389) (fun _ h9 => h9) rfl (tyX8_ok 11 (by decide)) rfl rfl (Nat.le_of_ble_eq_true rfl) dX8_init_105 (fun H locs hP hD hS => ?_)
  have hP : va_P D vwCl [(h0, .inr (8, [.ref q1, .ref q3, .ref q5, .ref q7, .ref q9, .ref q11, .ref q13, .ref q15, .ref q17, .ref q19, .ref q21, .ref q23, .int 0, .int 0, .int 0, .int 0])), (q1, .inl (k2, 40, .inl (fun _ => 0))), (q3, .inl (k4, 40, .inl (fun _ => 0))), (q5, .inl (k6, 40, .inl (fun _ => 0))), (q7, .inl (k8, 40, .inl (fun _ => 0))), (q9, .inl (k10, 960, .inl (fun _ => 0))), (q11, .inl (k12, 300, .inl (fun _ => 0))), (q13, .inl (k14, 300, .inl (fun _ => 0))), (q15, .inl (k16, 300, .inl (fun _ => 0))), (q17, .inl (k18, 300, .inl (fun _ => 0))), (q19, .inl (k20, 2400, .inl (fun _ => 0))), (q21, .inl (k22, 512, .inl (fun _ => 0))), (q23, .inl (k24, 512, .inl (fun _ => 0)))] H := hP
  have hD : va_D A [(h0, .inr (8, [.ref q1, .ref q3, .ref q5, .ref q7, .ref q9, .ref q11, .ref q13, .ref q15, .ref q17, .ref q19, .ref q21, .ref q23, .int 0, .int 0, .int 0, .int 0])), (q1, .inl (k2, 40, .inl (fun _ => 0))), (q3, .inl (k4, 40, .inl (fun _ => 0))), (q5, .inl (k6, 40, .inl (fun _ => 0))), (q7, .inl (k8, 40, .inl (fun _ => 0))), (q9, .inl (k10, 960, .inl (fun _ => 0))), (q11, .inl (k12, 300, .inl (fun _ => 0))), (q13, .inl (k14, 300, .inl (fun _ => 0))), (q15, .inl (k16, 300, .inl (fun _ => 0))), (q17, .inl (k18, 300, .inl (fun _ => 0))), (q19, .inl (k20, 2400, .inl (fun _ => 0))), (q21, .inl (k22, 512, .inl (fun _ => 0))), (q23, .inl (k24, 512, .inl (fun _ => 0)))] := hD
  refine lv_aload_n hx hb dX8_init_108 rfl (lv_at hl 0 rfl) ?_
  refine va_get (D := D) (ci := 8) (v := .ref q9) (C := RX8) (T := TX8) (N := 16) hx hb hg inX8 hown hK hP 0 rfl rfl 4 (by decide) (hg _ w378) (fun _ h9 => h9) rfl dX8_init_109 ?_
  refine lv_iconst (v := (-1)) hx hb dX8_init_112 (by decide) ?_
  refine g_void (wr := [(h0, .inr (8, [.ref q1, .ref q3, .ref q5, .ref q7, .ref q9, .ref q11, .ref q13, .ref q15, .ref q17, .ref q19, .ref q21, .ref q23, .int 0, .int 0, .int 0, .int 0])), (q1, .inl (k2, 40, .inl (fun _ => 0))), (q3, .inl (k4, 40, .inl (fun _ => 0))), (q5, .inl (k6, 40, .inl (fun _ => 0))), (q7, .inl (k8, 40, .inl (fun _ => 0))), (q11, .inl (k12, 300, .inl (fun _ => 0))), (q13, .inl (k14, 300, .inl (fun _ => 0))), (q15, .inl (k16, 300, .inl (fun _ => 0))), (q17, .inl (k18, 300, .inl (fun _ => 0))), (q19, .inl (k20, 2400, .inl (fun _ => 0))), (q21, .inl (k22, 512, .inl (fun _ => 0))), (q23, .inl (k24, 512, .inl (fun _ => 0)))]) (tr := [(k2, .int), (k4, .int), (k6, .boolean), (k8, .int), (k12, .int), (k14, .int), (k16, .int), (k18, .int), (k20, .int), (k22, .int), (k24, .int)]) (g_runS (As := [.ref q9, .int (-1)]) (rest := []) (wc := [(q9, .inl (k10, 960, .inl ((fun _ => 0))))]) (tc := [(k10, .int)]) hx hb hml hown hg gw_self hP hD hK hS hA hnw hgk [5] [4] (by decide) rfl rfl (c_fillN l D ks H.size q9 k10 960 (fun _ => 0) (-1) (by decide)) w370 w371 w165 w372 hdS_yJ7_fill_53178 ⟨Nat.le_of_ble_eq_true rfl, Nat.le_of_ble_eq_true rfl⟩ rfl hl.1 rfl (Nat.le_of_ble_eq_true rfl) dX8_init_113 ⟨Nat.le_of_ble_eq_true rfl, Nat.le_of_ble_eq_true rfl⟩) hP hD hK hS hA [5] [0, 1, 2, 3, 4, 6, 7, 8, 9, 10, 11, 12] [0, 1, 2, 3, 5, 6, 7, 8, 9, 10, 11] rfl rfl (by decide) (by decide) rfl (fun u27 H locs hw26 hP hD hK hS => ?_)
  obtain ⟨g_25, rfl⟩ : ∃ z, z = u27 := ⟨_, rfl⟩
  have hw26 : ∀ q : Nat, g_25 q = if q < 960 then (-1) else (fun _ => 0) q := hw26
  have hP : va_P D vwCl [(h0, .inr (8, [.ref q1, .ref q3, .ref q5, .ref q7, .ref q9, .ref q11, .ref q13, .ref q15, .ref q17, .ref q19, .ref q21, .ref q23, .int 0, .int 0, .int 0, .int 0])), (q1, .inl (k2, 40, .inl (fun _ => 0))), (q3, .inl (k4, 40, .inl (fun _ => 0))), (q5, .inl (k6, 40, .inl (fun _ => 0))), (q7, .inl (k8, 40, .inl (fun _ => 0))), (q11, .inl (k12, 300, .inl (fun _ => 0))), (q13, .inl (k14, 300, .inl (fun _ => 0))), (q15, .inl (k16, 300, .inl (fun _ => 0))), (q17, .inl (k18, 300, .inl (fun _ => 0))), (q19, .inl (k20, 2400, .inl (fun _ => 0))), (q21, .inl (k22, 512, .inl (fun _ => 0))), (q23, .inl (k24, 512, .inl (fun _ => 0))), (q9, .inl (k10, 960, .inl (g_25)))] H := hP
  have hD : va_D A [(h0, .inr (8, [.ref q1, .ref q3, .ref q5, .ref q7, .ref q9, .ref q11, .ref q13, .ref q15, .ref q17, .ref q19, .ref q21, .ref q23, .int 0, .int 0, .int 0, .int 0])), (q1, .inl (k2, 40, .inl (fun _ => 0))), (q3, .inl (k4, 40, .inl (fun _ => 0))), (q5, .inl (k6, 40, .inl (fun _ => 0))), (q7, .inl (k8, 40, .inl (fun _ => 0))), (q11, .inl (k12, 300, .inl (fun _ => 0))), (q13, .inl (k14, 300, .inl (fun _ => 0))), (q15, .inl (k16, 300, .inl (fun _ => 0))), (q17, .inl (k18, 300, .inl (fun _ => 0))), (q19, .inl (k20, 2400, .inl (fun _ => 0))), (q21, .inl (k22, 512, .inl (fun _ => 0))), (q23, .inl (k24, 512, .inl (fun _ => 0))), (q9, .inl (k10, 960, .inl (g_25)))] := hD
  have hK : va_K D vwCl [(k2, .int), (k4, .int), (k6, .boolean), (k8, .int), (k12, .int), (k14, .int), (k16, .int), (k18, .int), (k20, .int), (k22, .int), (k24, .int), (k10, .int)] s := hK
  refine lv_aload_n hx hb dX8_init_116 rfl (lv_at hl 0 rfl) ?_
  refine va_get (D := D) (ci := 8) (v := .ref q5) (C := RX8) (T := TX8) (N := 16) hx hb hg inX8 hown hK hP 0 rfl rfl 2 (by decide) (hg _ w376) (fun _ h9 => h9) rfl dX8_init_117 ?_
  refine lv_iconst (v := 0) hx hb dX8_init_120 (by decide) ?_
  refine lv_iconst (v := 1) hx hb dX8_init_121 (by decide) ?_
  refine va_zast (D := D) (i := 0) (x := 1) hx hb hK hP hD hS 3 2 rfl rfl (vp_in_nI (n := 0) (N := 40) (by decide) (by decide)) dX8_init_122 (fun H locs hP hD hS => ?_)
  have hP : va_P D vwCl [(h0, .inr (8, [.ref q1, .ref q3, .ref q5, .ref q7, .ref q9, .ref q11, .ref q13, .ref q15, .ref q17, .ref q19, .ref q21, .ref q23, .int 0, .int 0, .int 0, .int 0])), (q1, .inl (k2, 40, .inl (fun _ => 0))), (q3, .inl (k4, 40, .inl (fun _ => 0))), (q5, .inl (k6, 40, .inl (upd (fun _ => 0) 0 1))), (q7, .inl (k8, 40, .inl (fun _ => 0))), (q11, .inl (k12, 300, .inl (fun _ => 0))), (q13, .inl (k14, 300, .inl (fun _ => 0))), (q15, .inl (k16, 300, .inl (fun _ => 0))), (q17, .inl (k18, 300, .inl (fun _ => 0))), (q19, .inl (k20, 2400, .inl (fun _ => 0))), (q21, .inl (k22, 512, .inl (fun _ => 0))), (q23, .inl (k24, 512, .inl (fun _ => 0))), (q9, .inl (k10, 960, .inl (g_25)))] H := hP
  have hD : va_D A [(h0, .inr (8, [.ref q1, .ref q3, .ref q5, .ref q7, .ref q9, .ref q11, .ref q13, .ref q15, .ref q17, .ref q19, .ref q21, .ref q23, .int 0, .int 0, .int 0, .int 0])), (q1, .inl (k2, 40, .inl (fun _ => 0))), (q3, .inl (k4, 40, .inl (fun _ => 0))), (q5, .inl (k6, 40, .inl (upd (fun _ => 0) 0 1))), (q7, .inl (k8, 40, .inl (fun _ => 0))), (q11, .inl (k12, 300, .inl (fun _ => 0))), (q13, .inl (k14, 300, .inl (fun _ => 0))), (q15, .inl (k16, 300, .inl (fun _ => 0))), (q17, .inl (k18, 300, .inl (fun _ => 0))), (q19, .inl (k20, 2400, .inl (fun _ => 0))), (q21, .inl (k22, 512, .inl (fun _ => 0))), (q23, .inl (k24, 512, .inl (fun _ => 0))), (q9, .inl (k10, 960, .inl (g_25)))] := hD
  refine lv_aload_n hx hb dX8_init_123 rfl (lv_at hl 0 rfl) ?_
  refine lv_iconst (v := 1) hx hb dX8_init_124 (by decide) ?_
  refine va_put (D := D) (ci := 8) (v := .int 1) (ty := tyX8 12) (C := RX8) (T := TX8) (N := 16) hx hb hg inX8 tyX8 tyX8_ok nmX8 hown hK hP hD hS 0 rfl rfl 12 (by decide) (hg _ w390) (fun _ h9 => h9) rfl (tyX8_ok 12 (by decide)) rfl rfl (Nat.le_of_ble_eq_true rfl) dX8_init_125 (fun H locs hP hD hS => ?_)
  have hP : va_P D vwCl [(h0, .inr (8, [.ref q1, .ref q3, .ref q5, .ref q7, .ref q9, .ref q11, .ref q13, .ref q15, .ref q17, .ref q19, .ref q21, .ref q23, .int 1, .int 0, .int 0, .int 0])), (q1, .inl (k2, 40, .inl (fun _ => 0))), (q3, .inl (k4, 40, .inl (fun _ => 0))), (q5, .inl (k6, 40, .inl (upd (fun _ => 0) 0 1))), (q7, .inl (k8, 40, .inl (fun _ => 0))), (q11, .inl (k12, 300, .inl (fun _ => 0))), (q13, .inl (k14, 300, .inl (fun _ => 0))), (q15, .inl (k16, 300, .inl (fun _ => 0))), (q17, .inl (k18, 300, .inl (fun _ => 0))), (q19, .inl (k20, 2400, .inl (fun _ => 0))), (q21, .inl (k22, 512, .inl (fun _ => 0))), (q23, .inl (k24, 512, .inl (fun _ => 0))), (q9, .inl (k10, 960, .inl (g_25)))] H := hP
  have hD : va_D A [(h0, .inr (8, [.ref q1, .ref q3, .ref q5, .ref q7, .ref q9, .ref q11, .ref q13, .ref q15, .ref q17, .ref q19, .ref q21, .ref q23, .int 1, .int 0, .int 0, .int 0])), (q1, .inl (k2, 40, .inl (fun _ => 0))), (q3, .inl (k4, 40, .inl (fun _ => 0))), (q5, .inl (k6, 40, .inl (upd (fun _ => 0) 0 1))), (q7, .inl (k8, 40, .inl (fun _ => 0))), (q11, .inl (k12, 300, .inl (fun _ => 0))), (q13, .inl (k14, 300, .inl (fun _ => 0))), (q15, .inl (k16, 300, .inl (fun _ => 0))), (q17, .inl (k18, 300, .inl (fun _ => 0))), (q19, .inl (k20, 2400, .inl (fun _ => 0))), (q21, .inl (k22, 512, .inl (fun _ => 0))), (q23, .inl (k24, 512, .inl (fun _ => 0))), (q9, .inl (k10, 960, .inl (g_25)))] := hD
  refine W.widen (k := 12) (n := 5744) (Nat.le_of_ble_eq_true rfl) (Nat.le_of_ble_eq_true rfl) ?_
  have hP9 := hP.sub (ws' := [(h0, .inr (8, [.ref q1, .ref q3, .ref q5, .ref q7, .ref q9, .ref q11, .ref q13, .ref q15, .ref q17, .ref q19, .ref q21, .ref q23, .int 1, .int 0, .int 0, .int 0])), (q1, .inl (k2, 40, .inl (fun _ => 0))), (q3, .inl (k4, 40, .inl (fun _ => 0))), (q5, .inl (k6, 40, .inl (upd (fun _ => 0) 0 1))), (q7, .inl (k8, 40, .inl (fun _ => 0))), (q9, .inl (k10, 960, .inl (g_25))), (q11, .inl (k12, 300, .inl (fun _ => 0))), (q13, .inl (k14, 300, .inl (fun _ => 0))), (q15, .inl (k16, 300, .inl (fun _ => 0))), (q17, .inl (k18, 300, .inl (fun _ => 0))), (q19, .inl (k20, 2400, .inl (fun _ => 0))), (q21, .inl (k22, 512, .inl (fun _ => 0))), (q23, .inl (k24, 512, .inl (fun _ => 0)))]) [0, 1, 2, 3, 4, 12, 5, 6, 7, 8, 9, 10, 11] rfl
  have hD9 := hD.sub (ws' := [(h0, .inr (8, [.ref q1, .ref q3, .ref q5, .ref q7, .ref q9, .ref q11, .ref q13, .ref q15, .ref q17, .ref q19, .ref q21, .ref q23, .int 1, .int 0, .int 0, .int 0])), (q1, .inl (k2, 40, .inl (fun _ => 0))), (q3, .inl (k4, 40, .inl (fun _ => 0))), (q5, .inl (k6, 40, .inl (upd (fun _ => 0) 0 1))), (q7, .inl (k8, 40, .inl (fun _ => 0))), (q9, .inl (k10, 960, .inl (g_25))), (q11, .inl (k12, 300, .inl (fun _ => 0))), (q13, .inl (k14, 300, .inl (fun _ => 0))), (q15, .inl (k16, 300, .inl (fun _ => 0))), (q17, .inl (k18, 300, .inl (fun _ => 0))), (q19, .inl (k20, 2400, .inl (fun _ => 0))), (q21, .inl (k22, 512, .inl (fun _ => 0))), (q23, .inl (k24, 512, .inl (fun _ => 0)))]) [0, 1, 2, 3, 4, 12, 5, 6, 7, 8, 9, 10, 11] (by decide) rfl
  have hK9 := hK.sub (tys' := [(k2, .int), (k4, .int), (k6, .boolean), (k8, .int), (k10, .int), (k12, .int), (k14, .int), (k16, .int), (k18, .int), (k20, .int), (k22, .int), (k24, .int)]) [0, 1, 2, 3, 11, 4, 5, 6, 7, 8, 9, 10] rfl
  exact W.vret hx hb hr (fun t ht hW => ⟨⟨(q1, q3, q5, q7, q9, q11, q13, q15, q17, q19, q21, q23, k2, k4, k6, k8, k10, k12, k14, k16, k18, k20, k22, k24, g_25), rfl, hw26, by rw [ht]; exact hP9, va_K.moved hW.alike hK9, hD9⟩, hS.F ht⟩) hS.2.2 dX8_init_128
abbrev r_c_isDigitK : Room := { frames := 0, cells := 0, slots := 0, locals := 0 }
abbrev q_c_isDigitK (D : va_G) (i : Nat) (A : Nat → Prop) : Array Value → State → Outcome → State → Prop := va_Qi (fun (r : Int32) (_ : Unit) => r = 0) (fun u t => gq D A ((fun (_ : Unit) => []) u) ((fun (_ : Unit) => ([] : List (ClassId × FieldType))) u) t) A
set_option maxHeartbeats 4000000 in
set_option maxRecDepth 100000 in
theorem c_isDigitK (l : Launch) (D : va_G) (ks : KS) (sz : Nat) (i : Nat) (hi : i < 155) (hw : ¬ kwc i = 32) : Met l yX9_isDigit (Cond.code yX9_isDigit cX9_isDigit 1 (some .boolean) :: GW) r_c_isDigitK (va_Pc [.int (kwc i)] (gp D ks [] [] sz)) (q_c_isDigitK D i (va_A [] sz)) 0 0 (va_A [] sz) := by
  refine g_met (q_c_isDigitK D i) (by decide) (Nat.le_of_ble_eq_true rfl) ?_
  intro p e s m below meth c A ls H locs hx hb hr hml hown hg hlocks hin hnw hgk hP hK hD hS hA hl
  have hown : s.vm.findClass RX9 = some m.cls := hown
  have hl : lv_has ls 1 [(0, .int (kwc i))] := hl
  refine lv_iload_n hx hb dX9_isDigit_0 rfl (lv_at hl 0 rfl) ?_
  refine lv_bipush (v := 48) hx hb dX9_isDigit_1 (by decide) ?_
  refine lv_icmp_lt (tgt := 16) hx hb dX9_isDigit_3 (by decide) (fun q => absurd q (kw48 i hi hw)) (fun _ => ?_)
  refine lv_iload_n hx hb dX9_isDigit_6 rfl (lv_at hl 0 rfl) ?_
  refine lv_bipush (v := 57) hx hb dX9_isDigit_7 (by decide) ?_
  refine lv_icmp_gt (tgt := 16) hx hb dX9_isDigit_9 (by decide) (fun _ => ?_) (fun q => absurd (kw57 i hi hw) q)
  refine lv_iconst (v := 0) hx hb dX9_isDigit_16 (by decide) ?_
  refine W.widen (k := 0) (n := 0) (Nat.le_of_ble_eq_true rfl) (Nat.le_of_ble_eq_true rfl) ?_
  have hP9 := hP.sub (ws' := []) [] rfl
  have hD9 := hD.sub (ws' := []) [] (by decide) rfl
  have hK9 := hK.sub (tys' := []) [] rfl
  exact W.zret (v := 0) hx hb hr rfl (fun t ht hW => ⟨⟨0, (), rfl, (by first | rfl | trivial | assumption | decide), by rw [ht]; exact hP9, va_K.moved hW.alike hK9, hD9⟩, hS.F ht⟩) hS.2.2 dX9_isDigit_17
abbrev r_c_codeOfK : Room := { frames := 1, cells := 0, slots := 0, locals := 20 }
abbrev q_c_codeOfK (D : va_G) (i : Nat) (A : Nat → Prop) : Array Value → State → Outcome → State → Prop := va_Qi (fun (r : Int32) (_ : Unit) => r = kwc i - 97 + 1) (fun u t => gq D A ((fun (_ : Unit) => []) u) ((fun (_ : Unit) => ([] : List (ClassId × FieldType))) u) t) A
set_option maxHeartbeats 4000000 in
set_option maxRecDepth 100000 in
theorem c_codeOfK (l : Launch) (D : va_G) (ks : KS) (sz : Nat) (i : Nat) (hi : i < 155) (hw : ¬ kwc i = 32) : Met l yX9_codeOf (Cond.code yX9_codeOf cX9_codeOf 1 (some .int) :: GW) r_c_codeOfK (va_Pc [.int (kwc i)] (gp D ks [] [] sz)) (q_c_codeOfK D i (va_A [] sz)) 0 0 (va_A [] sz) := by
  refine g_met (q_c_codeOfK D i) (by decide) (Nat.le_of_ble_eq_true rfl) ?_
  intro p e s m below meth c A ls H locs hx hb hr hml hown hg hlocks hin hnw hgk hP hK hD hS hA hl
  have hown : s.vm.findClass RX9 = some m.cls := hown
  have hl : lv_has ls 1 [(0, .int (kwc i))] := hl
  refine lv_iload_n hx hb dX9_codeOf_0 rfl (lv_at hl 0 rfl) ?_
  refine g_int (wr := []) (tr := []) (g_runS (As := [.int (kwc i)]) (rest := []) (wc := []) (tc := []) hx hb hml hown hg gw_self hP hD hK hS hA hnw hgk [] [] (by decide) rfl rfl (c_isDigitK l D ks H.size i hi hw) w249 w250 w157 w251 hdS_yX9_isDigit ⟨Nat.le_of_ble_eq_true rfl, Nat.le_of_ble_eq_true rfl⟩ rfl hl.1 rfl (Nat.le_of_ble_eq_true rfl) dX9_codeOf_1 ⟨Nat.le_of_ble_eq_true rfl, Nat.le_of_ble_eq_true rfl⟩) hP hD hK hS hA [] [] [] rfl rfl (by decide) (by decide) rfl (fun r3 u2 H locs hw1 hP hD hK hS => ?_)
  have hw1 : r3 = 0 := hw1
  subst hw1
  have hP : va_P D vwCl [] H := hP
  have hD : va_D A [] := hD
  have hK : va_K D vwCl [] s := hK
  refine lv_if_eq (tgt := 17) hx hb dX9_codeOf_4 (by decide) (fun _ => ?_) (fun q => absurd (by decide) q)
  refine lv_iload_n hx hb dX9_codeOf_17 rfl (lv_at hl 0 rfl) ?_
  refine lv_bipush (v := 97) hx hb dX9_codeOf_18 (by decide) ?_
  refine lv_isub hx hb dX9_codeOf_20 ?_
  refine lv_iconst (v := 1) hx hb dX9_codeOf_21 (by decide) ?_
  refine lv_iadd hx hb dX9_codeOf_22 ?_
  refine W.widen (k := 0) (n := 0) (Nat.le_of_ble_eq_true rfl) (Nat.le_of_ble_eq_true rfl) ?_
  have hP9 := hP.sub (ws' := []) [] rfl
  have hD9 := hD.sub (ws' := []) [] (by decide) rfl
  have hK9 := hK.sub (tys' := []) [] rfl
  exact W.iret (v := (((kwc i) - 97) + 1)) hx hb hr (fun t ht hW => ⟨⟨(((kwc i) - 97) + 1), (), rfl, (by first | rfl | trivial | assumption | decide), by rw [ht]; exact hP9, va_K.moved hW.alike hK9, hD9⟩, hS.F ht⟩) hS.2.2 dX9_codeOf_23
abbrev r_c_Tape_init : Room := { frames := 4, cells := 5, slots := 16031, locals := 85 }
abbrev q_c_Tape_init (D : va_G) (h0 : Nat) (A : Nat → Prop) : Array Value → State → Outcome → State → Prop := va_Qv (fun (u : Nat × Nat × Nat × Nat × Nat × ClassId × ClassId × ClassId × ClassId × ClassId × (Nat → Int64)) => ∀ j : Nat, j < 28 → u.2.2.2.2.2.2.2.2.2.2 j = kg 155 j) (fun u t => gq D A ((fun (u : Nat × Nat × Nat × Nat × Nat × ClassId × ClassId × ClassId × ClassId × ClassId × (Nat → Int64)) => [(h0, .inr (9, [.ref u.1, .ref u.2.1, .ref u.2.2.1, .ref u.2.2.2.1, .ref u.2.2.2.2.1, .int 0, .int 0, .int 0, .int 0, .int 0, .int 0, .long 0])), (u.1, .inl (u.2.2.2.2.2.1, 4000, .inl (fun _ => 0))), (u.2.1, .inl (u.2.2.2.2.2.2.1, 28, .inr (.inl (u.2.2.2.2.2.2.2.2.2.2)))), (u.2.2.1, .inl (u.2.2.2.2.2.2.2.1, 4001, .inl (fun _ => 0))), (u.2.2.2.1, .inl (u.2.2.2.2.2.2.2.2.1, 4001, .inl (fun _ => 0))), (u.2.2.2.2.1, .inl (u.2.2.2.2.2.2.2.2.2.1, 4001, .inr (.inl (fun _ => 0))))]) u) ((fun (u : Nat × Nat × Nat × Nat × Nat × ClassId × ClassId × ClassId × ClassId × ClassId × (Nat → Int64)) => ([(u.2.2.2.2.2.1, .byte), (u.2.2.2.2.2.2.1, .long), (u.2.2.2.2.2.2.2.1, .int), (u.2.2.2.2.2.2.2.2.1, .int), (u.2.2.2.2.2.2.2.2.2.1, .long)] : List (ClassId × FieldType))) u) t) A
set_option maxHeartbeats 4000000 in
set_option maxRecDepth 100000 in
theorem c_Tape_init (l : Launch) (D : va_G) (ks : KS) (sz : Nat) (h0 : Nat) : Met l yX9_init (Cond.code yX9_init cX9_init 4 none :: GW) r_c_Tape_init (va_Pc [.ref h0] (gp D ks [(h0, .inr (9, [.null, .null, .null, .null, .null, .int 0, .int 0, .int 0, .int 0, .int 0, .int 0, .long 0]))] [] sz)) (q_c_Tape_init D h0 (va_A [(h0, .inr (9, [.null, .null, .null, .null, .null, .int 0, .int 0, .int 0, .int 0, .int 0, .int 0, .long 0]))] sz)) 5 16031 (va_A [(h0, .inr (9, [.null, .null, .null, .null, .null, .int 0, .int 0, .int 0, .int 0, .int 0, .int 0, .long 0]))] sz) := by
  refine g_met (q_c_Tape_init D h0) (by decide) (Nat.le_of_ble_eq_true rfl) ?_
  intro p e s m below meth c A ls H locs hx hb hr hml hown hg hlocks hin hnw hgk hP hK hD hS hA hl
  have hown : s.vm.findClass RX9 = some m.cls := hown
  have hin : meth.name = "<init>" := hin
  have hl : lv_has ls 4 [(0, .ref h0)] := hl
  refine lv_aload_n hx hb dX9_init_0 rfl (lv_at hl 0 rfl) ?_
  refine W.objInit hx hb hown (hg _ w195) (hg _ w188) (hg _ wobj) rfl (by rw [hml]; exact hl.1) rfl dX9_init_1 (Nat.le_of_ble_eq_true rfl) (Nat.le_of_ble_eq_true rfl) ?_
  refine W.eq (g2 := F0 m 4 ls []) rfl ?_
  refine lv_aload_n hx hb dX9_init_4 rfl (lv_at hl 0 rfl) ?_
  refine lv_sipush (v := 4000) hx hb dX9_init_5 (by decide) ?_
  refine va_newa (D := D) (atype := .byte) (ty := .byte) (n := 4000) (N' := 4000) (a0 := (4000, .inl (fun _ => 0))) hx hb (hg _ w295) rfl hK hP hD hS hA (fun _ => rfl) (by decide) (by decide) (by decide) (Nat.le_of_ble_eq_true rfl) (Nat.le_of_ble_eq_true rfl) dX9_init_8 (fun q1 k2 H hK hP hD hS => ?_)
  have hP : va_P D vwCl [(h0, .inr (9, [.null, .null, .null, .null, .null, .int 0, .int 0, .int 0, .int 0, .int 0, .int 0, .long 0])), (q1, .inl (k2, 4000, .inl (fun _ => 0)))] H := hP
  have hD : va_D A [(h0, .inr (9, [.null, .null, .null, .null, .null, .int 0, .int 0, .int 0, .int 0, .int 0, .int 0, .long 0])), (q1, .inl (k2, 4000, .inl (fun _ => 0)))] := hD
  have hK : va_K D vwCl [(k2, .byte)] s := hK
  refine va_putF (D := D) (ci := 9) (v := .ref q1) (ty := tyX9 0) (C := RX9) (T := TX9) (N := 12) hx hb hg inX9 tyX9 tyX9_ok nmX9 hown hK hP hD hS 0 rfl rfl 0 (by decide) (hg _ w252) (fun _ h9 => h9) rfl hin rfl (tyX9_ok 0 (by decide)) rfl rfl (Nat.le_of_ble_eq_true rfl) dX9_init_10 (fun H locs hP hD hS => ?_)
  have hP : va_P D vwCl [(h0, .inr (9, [.ref q1, .null, .null, .null, .null, .int 0, .int 0, .int 0, .int 0, .int 0, .int 0, .long 0])), (q1, .inl (k2, 4000, .inl (fun _ => 0)))] H := hP
  have hD : va_D A [(h0, .inr (9, [.ref q1, .null, .null, .null, .null, .int 0, .int 0, .int 0, .int 0, .int 0, .int 0, .long 0])), (q1, .inl (k2, 4000, .inl (fun _ => 0)))] := hD
  refine lv_aload_n hx hb dX9_init_13 rfl (lv_at hl 0 rfl) ?_
  refine lv_bipush (v := 28) hx hb dX9_init_14 (by decide) ?_
  refine va_newa (D := D) (atype := .long) (ty := .long) (n := 28) (N' := 28) (a0 := (28, .inr (.inl (fun _ => 0)))) hx hb (hg _ w296) rfl hK hP hD hS hA (fun _ => rfl) (by decide) (by decide) (by decide) (Nat.le_of_ble_eq_true rfl) (Nat.le_of_ble_eq_true rfl) dX9_init_16 (fun q3 k4 H hK hP hD hS => ?_)
  have hP : va_P D vwCl [(h0, .inr (9, [.ref q1, .null, .null, .null, .null, .int 0, .int 0, .int 0, .int 0, .int 0, .int 0, .long 0])), (q1, .inl (k2, 4000, .inl (fun _ => 0))), (q3, .inl (k4, 28, .inr (.inl (fun _ => 0))))] H := hP
  have hD : va_D A [(h0, .inr (9, [.ref q1, .null, .null, .null, .null, .int 0, .int 0, .int 0, .int 0, .int 0, .int 0, .long 0])), (q1, .inl (k2, 4000, .inl (fun _ => 0))), (q3, .inl (k4, 28, .inr (.inl (fun _ => 0))))] := hD
  have hK : va_K D vwCl [(k2, .byte), (k4, .long)] s := hK
  refine va_putF (D := D) (ci := 9) (v := .ref q3) (ty := tyX9 1) (C := RX9) (T := TX9) (N := 12) hx hb hg inX9 tyX9 tyX9_ok nmX9 hown hK hP hD hS 0 rfl rfl 1 (by decide) (hg _ w253) (fun _ h9 => h9) rfl hin rfl (tyX9_ok 1 (by decide)) rfl rfl (Nat.le_of_ble_eq_true rfl) dX9_init_18 (fun H locs hP hD hS => ?_)
  have hP : va_P D vwCl [(h0, .inr (9, [.ref q1, .ref q3, .null, .null, .null, .int 0, .int 0, .int 0, .int 0, .int 0, .int 0, .long 0])), (q1, .inl (k2, 4000, .inl (fun _ => 0))), (q3, .inl (k4, 28, .inr (.inl (fun _ => 0))))] H := hP
  have hD : va_D A [(h0, .inr (9, [.ref q1, .ref q3, .null, .null, .null, .int 0, .int 0, .int 0, .int 0, .int 0, .int 0, .long 0])), (q1, .inl (k2, 4000, .inl (fun _ => 0))), (q3, .inl (k4, 28, .inr (.inl (fun _ => 0))))] := hD
  refine lv_aload_n hx hb dX9_init_21 rfl (lv_at hl 0 rfl) ?_
  refine lv_sipush (v := 4001) hx hb dX9_init_22 (by decide) ?_
  refine va_newa (D := D) (atype := .int) (ty := .int) (n := 4001) (N' := 4001) (a0 := (4001, .inl (fun _ => 0))) hx hb (hg _ w297) rfl hK hP hD hS hA (fun _ => rfl) (by decide) (by decide) (by decide) (Nat.le_of_ble_eq_true rfl) (Nat.le_of_ble_eq_true rfl) dX9_init_25 (fun q5 k6 H hK hP hD hS => ?_)
  have hP : va_P D vwCl [(h0, .inr (9, [.ref q1, .ref q3, .null, .null, .null, .int 0, .int 0, .int 0, .int 0, .int 0, .int 0, .long 0])), (q1, .inl (k2, 4000, .inl (fun _ => 0))), (q3, .inl (k4, 28, .inr (.inl (fun _ => 0)))), (q5, .inl (k6, 4001, .inl (fun _ => 0)))] H := hP
  have hD : va_D A [(h0, .inr (9, [.ref q1, .ref q3, .null, .null, .null, .int 0, .int 0, .int 0, .int 0, .int 0, .int 0, .long 0])), (q1, .inl (k2, 4000, .inl (fun _ => 0))), (q3, .inl (k4, 28, .inr (.inl (fun _ => 0)))), (q5, .inl (k6, 4001, .inl (fun _ => 0)))] := hD
  have hK : va_K D vwCl [(k2, .byte), (k4, .long), (k6, .int)] s := hK
  refine va_putF (D := D) (ci := 9) (v := .ref q5) (ty := tyX9 2) (C := RX9) (T := TX9) (N := 12) hx hb hg inX9 tyX9 tyX9_ok nmX9 hown hK hP hD hS 0 rfl rfl 2 (by decide) (hg _ w254) (fun _ h9 => h9) rfl hin rfl (tyX9_ok 2 (by decide)) rfl rfl (Nat.le_of_ble_eq_true rfl) dX9_init_27 (fun H locs hP hD hS => ?_)
  have hP : va_P D vwCl [(h0, .inr (9, [.ref q1, .ref q3, .ref q5, .null, .null, .int 0, .int 0, .int 0, .int 0, .int 0, .int 0, .long 0])), (q1, .inl (k2, 4000, .inl (fun _ => 0))), (q3, .inl (k4, 28, .inr (.inl (fun _ => 0)))), (q5, .inl (k6, 4001, .inl (fun _ => 0)))] H := hP
  have hD : va_D A [(h0, .inr (9, [.ref q1, .ref q3, .ref q5, .null, .null, .int 0, .int 0, .int 0, .int 0, .int 0, .int 0, .long 0])), (q1, .inl (k2, 4000, .inl (fun _ => 0))), (q3, .inl (k4, 28, .inr (.inl (fun _ => 0)))), (q5, .inl (k6, 4001, .inl (fun _ => 0)))] := hD
  refine lv_aload_n hx hb dX9_init_30 rfl (lv_at hl 0 rfl) ?_
  refine lv_sipush (v := 4001) hx hb dX9_init_31 (by decide) ?_
  refine va_newa (D := D) (atype := .int) (ty := .int) (n := 4001) (N' := 4001) (a0 := (4001, .inl (fun _ => 0))) hx hb (hg _ w297) rfl hK hP hD hS hA (fun _ => rfl) (by decide) (by decide) (by decide) (Nat.le_of_ble_eq_true rfl) (Nat.le_of_ble_eq_true rfl) dX9_init_34 (fun q7 k8 H hK hP hD hS => ?_)
  have hP : va_P D vwCl [(h0, .inr (9, [.ref q1, .ref q3, .ref q5, .null, .null, .int 0, .int 0, .int 0, .int 0, .int 0, .int 0, .long 0])), (q1, .inl (k2, 4000, .inl (fun _ => 0))), (q3, .inl (k4, 28, .inr (.inl (fun _ => 0)))), (q5, .inl (k6, 4001, .inl (fun _ => 0))), (q7, .inl (k8, 4001, .inl (fun _ => 0)))] H := hP
  have hD : va_D A [(h0, .inr (9, [.ref q1, .ref q3, .ref q5, .null, .null, .int 0, .int 0, .int 0, .int 0, .int 0, .int 0, .long 0])), (q1, .inl (k2, 4000, .inl (fun _ => 0))), (q3, .inl (k4, 28, .inr (.inl (fun _ => 0)))), (q5, .inl (k6, 4001, .inl (fun _ => 0))), (q7, .inl (k8, 4001, .inl (fun _ => 0)))] := hD
  have hK : va_K D vwCl [(k2, .byte), (k4, .long), (k6, .int), (k8, .int)] s := hK
  refine va_putF (D := D) (ci := 9) (v := .ref q7) (ty := tyX9 3) (C := RX9) (T := TX9) (N := 12) hx hb hg inX9 tyX9 tyX9_ok nmX9 hown hK hP hD hS 0 rfl rfl 3 (by decide) (hg _ w255) (fun _ h9 => h9) rfl hin rfl (tyX9_ok 3 (by decide)) rfl rfl (Nat.le_of_ble_eq_true rfl) dX9_init_36 (fun H locs hP hD hS => ?_)
  have hP : va_P D vwCl [(h0, .inr (9, [.ref q1, .ref q3, .ref q5, .ref q7, .null, .int 0, .int 0, .int 0, .int 0, .int 0, .int 0, .long 0])), (q1, .inl (k2, 4000, .inl (fun _ => 0))), (q3, .inl (k4, 28, .inr (.inl (fun _ => 0)))), (q5, .inl (k6, 4001, .inl (fun _ => 0))), (q7, .inl (k8, 4001, .inl (fun _ => 0)))] H := hP
  have hD : va_D A [(h0, .inr (9, [.ref q1, .ref q3, .ref q5, .ref q7, .null, .int 0, .int 0, .int 0, .int 0, .int 0, .int 0, .long 0])), (q1, .inl (k2, 4000, .inl (fun _ => 0))), (q3, .inl (k4, 28, .inr (.inl (fun _ => 0)))), (q5, .inl (k6, 4001, .inl (fun _ => 0))), (q7, .inl (k8, 4001, .inl (fun _ => 0)))] := hD
  refine lv_aload_n hx hb dX9_init_39 rfl (lv_at hl 0 rfl) ?_
  refine lv_sipush (v := 4001) hx hb dX9_init_40 (by decide) ?_
  refine va_newa (D := D) (atype := .long) (ty := .long) (n := 4001) (N' := 4001) (a0 := (4001, .inr (.inl (fun _ => 0)))) hx hb (hg _ w296) rfl hK hP hD hS hA (fun _ => rfl) (by decide) (by decide) (by decide) (Nat.le_of_ble_eq_true rfl) (Nat.le_of_ble_eq_true rfl) dX9_init_43 (fun q9 k10 H hK hP hD hS => ?_)
  have hP : va_P D vwCl [(h0, .inr (9, [.ref q1, .ref q3, .ref q5, .ref q7, .null, .int 0, .int 0, .int 0, .int 0, .int 0, .int 0, .long 0])), (q1, .inl (k2, 4000, .inl (fun _ => 0))), (q3, .inl (k4, 28, .inr (.inl (fun _ => 0)))), (q5, .inl (k6, 4001, .inl (fun _ => 0))), (q7, .inl (k8, 4001, .inl (fun _ => 0))), (q9, .inl (k10, 4001, .inr (.inl (fun _ => 0))))] H := hP
  have hD : va_D A [(h0, .inr (9, [.ref q1, .ref q3, .ref q5, .ref q7, .null, .int 0, .int 0, .int 0, .int 0, .int 0, .int 0, .long 0])), (q1, .inl (k2, 4000, .inl (fun _ => 0))), (q3, .inl (k4, 28, .inr (.inl (fun _ => 0)))), (q5, .inl (k6, 4001, .inl (fun _ => 0))), (q7, .inl (k8, 4001, .inl (fun _ => 0))), (q9, .inl (k10, 4001, .inr (.inl (fun _ => 0))))] := hD
  have hK : va_K D vwCl [(k2, .byte), (k4, .long), (k6, .int), (k8, .int), (k10, .long)] s := hK
  refine va_putF (D := D) (ci := 9) (v := .ref q9) (ty := tyX9 4) (C := RX9) (T := TX9) (N := 12) hx hb hg inX9 tyX9 tyX9_ok nmX9 hown hK hP hD hS 0 rfl rfl 4 (by decide) (hg _ w256) (fun _ h9 => h9) rfl hin rfl (tyX9_ok 4 (by decide)) rfl rfl (Nat.le_of_ble_eq_true rfl) dX9_init_45 (fun H locs hP hD hS => ?_)
  have hP : va_P D vwCl [(h0, .inr (9, [.ref q1, .ref q3, .ref q5, .ref q7, .ref q9, .int 0, .int 0, .int 0, .int 0, .int 0, .int 0, .long 0])), (q1, .inl (k2, 4000, .inl (fun _ => 0))), (q3, .inl (k4, 28, .inr (.inl (fun _ => 0)))), (q5, .inl (k6, 4001, .inl (fun _ => 0))), (q7, .inl (k8, 4001, .inl (fun _ => 0))), (q9, .inl (k10, 4001, .inr (.inl (fun _ => 0))))] H := hP
  have hD : va_D A [(h0, .inr (9, [.ref q1, .ref q3, .ref q5, .ref q7, .ref q9, .int 0, .int 0, .int 0, .int 0, .int 0, .int 0, .long 0])), (q1, .inl (k2, 4000, .inl (fun _ => 0))), (q3, .inl (k4, 28, .inr (.inl (fun _ => 0)))), (q5, .inl (k6, 4001, .inl (fun _ => 0))), (q7, .inl (k8, 4001, .inl (fun _ => 0))), (q9, .inl (k10, 4001, .inr (.inl (fun _ => 0))))] := hD
  refine lv_iconst (v := 0) hx hb dX9_init_48 (by decide) ?_
  refine lv_istore_n (lv' := [(1, .int 0), (0, .ref h0)]) hx hb dX9_init_49 rfl hl (by decide) rfl (fun ls hl => ?_)
  refine lv_iconst (v := 0) hx hb dX9_init_50 (by decide) ?_
  refine lv_istore_n (lv' := [(2, .int 0), (1, .int 0), (0, .ref h0)]) hx hb dX9_init_51 rfl hl (by decide) rfl (fun ls hl => ?_)
  refine W.widen (k := 5) (n := 16031) (Nat.le_of_ble_eq_true rfl) (Nat.le_of_ble_eq_true rfl) ?_
  have lp11 : ∀ (n : Nat) (i : Nat) (k : Nat) (g : Nat → Int64) (H : Heap) (locs : List Loc) (ls : Array Slot), i ≤ 155 → k ≤ i → k = sp i → (∀ j : Nat, g j = kc i j) → 155 < i + n → va_P D vwCl [(h0, .inr (9, [.ref q1, .ref q3, .ref q5, .ref q7, .ref q9, .int 0, .int 0, .int 0, .int 0, .int 0, .int 0, .long 0])), (q1, .inl (k2, 4000, .inl (fun _ => 0))), (q3, .inl (k4, 28, .inr (.inl (g)))), (q5, .inl (k6, 4001, .inl (fun _ => 0))), (q7, .inl (k8, 4001, .inl (fun _ => 0))), (q9, .inl (k10, 4001, .inr (.inl (fun _ => 0))))] H → va_D A [(h0, .inr (9, [.ref q1, .ref q3, .ref q5, .ref q7, .ref q9, .int 0, .int 0, .int 0, .int 0, .int 0, .int 0, .long 0])), (q1, .inl (k2, 4000, .inl (fun _ => 0))), (q3, .inl (k4, 28, .inr (.inl (g)))), (q5, .inl (k6, 4001, .inl (fun _ => 0))), (q7, .inl (k8, 4001, .inl (fun _ => 0))), (q9, .inl (k10, 4001, .inr (.inl (fun _ => 0))))] → va_S A s.heap H locs → lv_has ls 4 [(2, .int (nI i)), (1, .int (nI k)), (0, .ref h0)] → W p l e r_c_Tape_init s m ([.ref h0] : List Value).toArray below meth c H locs (5) (16031) (MQ below (q_c_Tape_init D h0 A) ([.ref h0] : List Value).toArray s 5 16031 A) (F0 m 52 ls []) := by
    intro n
    induction n with
    | zero =>
      intro i k g H locs ls hi hk hsp hg9 hn hP hD hS hl
      exact absurd hn (by omega)
    | succ n ih =>
      intro i k g H locs ls hi hk hsp hg9 hn hP hD hS hl
      refine lv_iload_n hx hb dX9_init_52 rfl (lv_at hl 0 rfl) ?_
      refine va_ldcS hx hb hown hgk.1.2.1 dX9_init_53 ?_
      refine g_int (wr := [(h0, .inr (9, [.ref q1, .ref q3, .ref q5, .ref q7, .ref q9, .int 0, .int 0, .int 0, .int 0, .int 0, .int 0, .long 0])), (q1, .inl (k2, 4000, .inl (fun _ => 0))), (q3, .inl (k4, 28, .inr (.inl (g)))), (q5, .inl (k6, 4001, .inl (fun _ => 0))), (q7, .inl (k8, 4001, .inl (fun _ => 0))), (q9, .inl (k10, 4001, .inr (.inl (fun _ => 0))))]) (tr := [(k2, .byte), (k4, .long), (k6, .int), (k8, .int), (k10, .long)]) (g_runW (As := []) (rest := [.int (nI i)]) (wc := []) (tc := []) (C := RJ0) hx hb hml hown hg gw_self hP hD hK hS hA hnw hgk [] [] (by decide) rfl rfl (c_length l D ks H.size) w197 w198 w199 w158 w200 (vk_recv (i := 0) hgk.1.1 (by decide) hS) hdV_yJ0_length_8abf5 ⟨Nat.le_of_ble_eq_true rfl, Nat.le_of_ble_eq_true rfl⟩ rfl hl.1 rfl (Nat.le_of_ble_eq_true rfl) dX9_init_55 ⟨Nat.le_of_ble_eq_true rfl, Nat.le_of_ble_eq_true rfl⟩) hP hD hK hS hA [] [0, 1, 2, 3, 4, 5] [0, 1, 2, 3, 4] rfl rfl (by decide) (by decide) rfl (fun r14 u13 H locs hw12 hP hD hK hS => ?_)
      have hw12 : r14 = 155 := hw12
      subst hw12
      have hP : va_P D vwCl [(h0, .inr (9, [.ref q1, .ref q3, .ref q5, .ref q7, .ref q9, .int 0, .int 0, .int 0, .int 0, .int 0, .int 0, .long 0])), (q1, .inl (k2, 4000, .inl (fun _ => 0))), (q3, .inl (k4, 28, .inr (.inl (g)))), (q5, .inl (k6, 4001, .inl (fun _ => 0))), (q7, .inl (k8, 4001, .inl (fun _ => 0))), (q9, .inl (k10, 4001, .inr (.inl (fun _ => 0))))] H := hP
      have hD : va_D A [(h0, .inr (9, [.ref q1, .ref q3, .ref q5, .ref q7, .ref q9, .int 0, .int 0, .int 0, .int 0, .int 0, .int 0, .long 0])), (q1, .inl (k2, 4000, .inl (fun _ => 0))), (q3, .inl (k4, 28, .inr (.inl (g)))), (q5, .inl (k6, 4001, .inl (fun _ => 0))), (q7, .inl (k8, 4001, .inl (fun _ => 0))), (q9, .inl (k10, 4001, .inr (.inl (fun _ => 0))))] := hD
      have hK : va_K D vwCl [(k2, .byte), (k4, .long), (k6, .int), (k8, .int), (k10, .long)] s := hK
      refine lv_icmp_ge (tgt := 114) hx hb dX9_init_58 (by decide) (fun c15 => ?_) (fun c15 => ?_)
      · skip
        have gc15 : 155 ≤ i := g_ge_ge (L := 155) (by omega) (by omega) c15
        refine W.widen (k := 5) (n := 16031) (Nat.le_of_ble_eq_true rfl) (Nat.le_of_ble_eq_true rfl) ?_
        have hP9 := hP.sub (ws' := [(h0, .inr (9, [.ref q1, .ref q3, .ref q5, .ref q7, .ref q9, .int 0, .int 0, .int 0, .int 0, .int 0, .int 0, .long 0])), (q1, .inl (k2, 4000, .inl (fun _ => 0))), (q3, .inl (k4, 28, .inr (.inl (g)))), (q5, .inl (k6, 4001, .inl (fun _ => 0))), (q7, .inl (k8, 4001, .inl (fun _ => 0))), (q9, .inl (k10, 4001, .inr (.inl (fun _ => 0))))]) [0, 1, 2, 3, 4, 5] rfl
        have hD9 := hD.sub (ws' := [(h0, .inr (9, [.ref q1, .ref q3, .ref q5, .ref q7, .ref q9, .int 0, .int 0, .int 0, .int 0, .int 0, .int 0, .long 0])), (q1, .inl (k2, 4000, .inl (fun _ => 0))), (q3, .inl (k4, 28, .inr (.inl (g)))), (q5, .inl (k6, 4001, .inl (fun _ => 0))), (q7, .inl (k8, 4001, .inl (fun _ => 0))), (q9, .inl (k10, 4001, .inr (.inl (fun _ => 0))))]) [0, 1, 2, 3, 4, 5] (by decide) rfl
        have hK9 := hK.sub (tys' := [(k2, .byte), (k4, .long), (k6, .int), (k8, .int), (k10, .long)]) [0, 1, 2, 3, 4] rfl
        exact W.vret hx hb hr (fun t ht hW => ⟨⟨(q1, q3, q5, q7, q9, k2, k4, k6, k8, k10, g), rfl, (fun j hj => by have e9 : i = 155 := (by by_cases q : i < 155; have := sp_lt i q; omega; omega); rw [e9] at hg9; exact (hg9 j).trans (kc_kg j hj)), by rw [ht]; exact hP9, va_K.moved hW.alike hK9, hD9⟩, hS.F ht⟩) hS.2.2 dX9_init_114
      · skip
        have gc15 : i < 155 := g_lt_ge (L := 155) (by omega) (by omega) c15
        refine lv_iload_n hx hb dX9_init_61 rfl (lv_at hl 1 rfl) ?_
        refine lv_bipush (v := 28) hx hb dX9_init_62 (by decide) ?_
        refine lv_icmp_ge (tgt := 114) hx hb dX9_init_64 (by decide) (fun c16 => ?_) (fun c16 => ?_)
        · skip
          have gc16 : 28 ≤ k := g_ge_ge (L := 28) (by omega) (by omega) c16
          refine W.widen (k := 5) (n := 16031) (Nat.le_of_ble_eq_true rfl) (Nat.le_of_ble_eq_true rfl) ?_
          have hP9 := hP.sub (ws' := [(h0, .inr (9, [.ref q1, .ref q3, .ref q5, .ref q7, .ref q9, .int 0, .int 0, .int 0, .int 0, .int 0, .int 0, .long 0])), (q1, .inl (k2, 4000, .inl (fun _ => 0))), (q3, .inl (k4, 28, .inr (.inl (g)))), (q5, .inl (k6, 4001, .inl (fun _ => 0))), (q7, .inl (k8, 4001, .inl (fun _ => 0))), (q9, .inl (k10, 4001, .inr (.inl (fun _ => 0))))]) [0, 1, 2, 3, 4, 5] rfl
          have hD9 := hD.sub (ws' := [(h0, .inr (9, [.ref q1, .ref q3, .ref q5, .ref q7, .ref q9, .int 0, .int 0, .int 0, .int 0, .int 0, .int 0, .long 0])), (q1, .inl (k2, 4000, .inl (fun _ => 0))), (q3, .inl (k4, 28, .inr (.inl (g)))), (q5, .inl (k6, 4001, .inl (fun _ => 0))), (q7, .inl (k8, 4001, .inl (fun _ => 0))), (q9, .inl (k10, 4001, .inr (.inl (fun _ => 0))))]) [0, 1, 2, 3, 4, 5] (by decide) rfl
          have hK9 := hK.sub (tys' := [(k2, .byte), (k4, .long), (k6, .int), (k8, .int), (k10, .long)]) [0, 1, 2, 3, 4] rfl
          exact W.vret hx hb hr (fun t ht hW => ⟨⟨(q1, q3, q5, q7, q9, k2, k4, k6, k8, k10, g), rfl, (fun j hj => by have e9 : i = 155 := (by by_cases q : i < 155; have := sp_lt i q; omega; omega); rw [e9] at hg9; exact (hg9 j).trans (kc_kg j hj)), by rw [ht]; exact hP9, va_K.moved hW.alike hK9, hD9⟩, hS.F ht⟩) hS.2.2 dX9_init_114
        · skip
          have gc16 : k < 28 := g_lt_ge (L := 28) (by omega) (by omega) c16
          refine va_ldcS hx hb hown hgk.1.2.1 dX9_init_67 ?_
          refine lv_iload_n hx hb dX9_init_69 rfl (lv_at hl 0 rfl) ?_
          refine g_int (wr := [(h0, .inr (9, [.ref q1, .ref q3, .ref q5, .ref q7, .ref q9, .int 0, .int 0, .int 0, .int 0, .int 0, .int 0, .long 0])), (q1, .inl (k2, 4000, .inl (fun _ => 0))), (q3, .inl (k4, 28, .inr (.inl (g)))), (q5, .inl (k6, 4001, .inl (fun _ => 0))), (q7, .inl (k8, 4001, .inl (fun _ => 0))), (q9, .inl (k10, 4001, .inr (.inl (fun _ => 0))))]) (tr := [(k2, .byte), (k4, .long), (k6, .int), (k8, .int), (k10, .long)]) (g_runW (As := [.int (nI i)]) (rest := []) (wc := []) (tc := []) (C := RJ0) hx hb hml hown hg gw_self hP hD hK hS hA hnw hgk [] [] (by decide) rfl rfl (c_charAt l D ks H.size i (by (first | exact om_97ddfa34d464 gc15 | omega))) w207 w208 w209 w158 w210 (vk_recv (i := 0) hgk.1.1 (by decide) hS) hdV_yJ0_charAt_5068e ⟨Nat.le_of_ble_eq_true rfl, Nat.le_of_ble_eq_true rfl⟩ rfl hl.1 rfl (Nat.le_of_ble_eq_true rfl) dX9_init_70 ⟨Nat.le_of_ble_eq_true rfl, Nat.le_of_ble_eq_true rfl⟩) hP hD hK hS hA [] [0, 1, 2, 3, 4, 5] [0, 1, 2, 3, 4] rfl rfl (by decide) (by decide) rfl (fun r19 u18 H locs hw17 hP hD hK hS => ?_)
          have hw17 : r19 = kwc i := hw17
          subst hw17
          have hP : va_P D vwCl [(h0, .inr (9, [.ref q1, .ref q3, .ref q5, .ref q7, .ref q9, .int 0, .int 0, .int 0, .int 0, .int 0, .int 0, .long 0])), (q1, .inl (k2, 4000, .inl (fun _ => 0))), (q3, .inl (k4, 28, .inr (.inl (g)))), (q5, .inl (k6, 4001, .inl (fun _ => 0))), (q7, .inl (k8, 4001, .inl (fun _ => 0))), (q9, .inl (k10, 4001, .inr (.inl (fun _ => 0))))] H := hP
          have hD : va_D A [(h0, .inr (9, [.ref q1, .ref q3, .ref q5, .ref q7, .ref q9, .int 0, .int 0, .int 0, .int 0, .int 0, .int 0, .long 0])), (q1, .inl (k2, 4000, .inl (fun _ => 0))), (q3, .inl (k4, 28, .inr (.inl (g)))), (q5, .inl (k6, 4001, .inl (fun _ => 0))), (q7, .inl (k8, 4001, .inl (fun _ => 0))), (q9, .inl (k10, 4001, .inr (.inl (fun _ => 0))))] := hD
          have hK : va_K D vwCl [(k2, .byte), (k4, .long), (k6, .int), (k8, .int), (k10, .long)] s := hK
          refine lv_istore_n (lv' := [(3, .int (kwc i)), (2, .int (nI i)), (1, .int (nI k)), (0, .ref h0)]) hx hb dX9_init_73 rfl hl (by decide) rfl (fun ls hl => ?_)
          refine lv_iload_n hx hb dX9_init_74 rfl (lv_at hl 0 rfl) ?_
          refine lv_bipush (v := 32) hx hb dX9_init_75 (by decide) ?_
          refine lv_icmp_ne (tgt := 86) hx hb dX9_init_77 (by decide) (fun c20 => ?_) (fun c20 => ?_)
          · skip
            refine lv_aload_n hx hb dX9_init_86 rfl (lv_at hl 3 rfl) ?_
            refine va_get (D := D) (ci := 9) (v := .ref q3) (C := RX9) (T := TX9) (N := 12) hx hb hg inX9 hown hK hP 0 rfl rfl 1 (by decide) (hg _ w253) (fun _ h9 => h9) rfl dX9_init_87 ?_
            refine lv_iload_n hx hb dX9_init_90 rfl (lv_at hl 2 rfl) ?_
            refine lv_aload_n hx hb dX9_init_91 rfl (lv_at hl 3 rfl) ?_
            refine va_get (D := D) (ci := 9) (v := .ref q3) (C := RX9) (T := TX9) (N := 12) hx hb hg inX9 hown hK hP 0 rfl rfl 1 (by decide) (hg _ w253) (fun _ h9 => h9) rfl dX9_init_92 ?_
            refine lv_iload_n hx hb dX9_init_95 rfl (lv_at hl 2 rfl) ?_
            refine va_lald (D := D) (i := (nI k)) hx hb hK hP 2 1 rfl rfl (vp_in_nI (by omega) (by omega)) dX9_init_96 ?_
            refine lv_ldc2 (v := 37) hx hb hown (hg _ w245) dX9_init_97 ?_
            refine lv_lmul hx hb dX9_init_100 ?_
            refine lv_iload_n hx hb dX9_init_101 rfl (lv_at hl 0 rfl) ?_
            refine g_int (wr := [(h0, .inr (9, [.ref q1, .ref q3, .ref q5, .ref q7, .ref q9, .int 0, .int 0, .int 0, .int 0, .int 0, .int 0, .long 0])), (q1, .inl (k2, 4000, .inl (fun _ => 0))), (q3, .inl (k4, 28, .inr (.inl (g)))), (q5, .inl (k6, 4001, .inl (fun _ => 0))), (q7, .inl (k8, 4001, .inl (fun _ => 0))), (q9, .inl (k10, 4001, .inr (.inl (fun _ => 0))))]) (tr := [(k2, .byte), (k4, .long), (k6, .int), (k8, .int), (k10, .long)]) (g_runS (As := [.int (kwc i)]) (rest := [.long (((g) (Int32.toNatClampNeg (nI k))) * 37), .int (nI k), .ref q3]) (wc := []) (tc := []) hx hb hml hown hg gw_self hP hD hK hS hA hnw hgk [] [] (by decide) rfl rfl (c_codeOfK l D ks H.size i (by (first | exact om_97ddfa34d464 gc15 | omega)) c20) w246 w247 w157 w248 hdS_yX9_codeOf ⟨Nat.le_of_ble_eq_true rfl, Nat.le_of_ble_eq_true rfl⟩ rfl hl.1 rfl (Nat.le_of_ble_eq_true rfl) dX9_init_102 ⟨Nat.le_of_ble_eq_true rfl, Nat.le_of_ble_eq_true rfl⟩) hP hD hK hS hA [] [0, 1, 2, 3, 4, 5] [0, 1, 2, 3, 4] rfl rfl (by decide) (by decide) rfl (fun r23 u22 H locs hw21 hP hD hK hS => ?_)
            have hw21 : r23 = kwc i - 97 + 1 := hw21
            subst hw21
            have hP : va_P D vwCl [(h0, .inr (9, [.ref q1, .ref q3, .ref q5, .ref q7, .ref q9, .int 0, .int 0, .int 0, .int 0, .int 0, .int 0, .long 0])), (q1, .inl (k2, 4000, .inl (fun _ => 0))), (q3, .inl (k4, 28, .inr (.inl (g)))), (q5, .inl (k6, 4001, .inl (fun _ => 0))), (q7, .inl (k8, 4001, .inl (fun _ => 0))), (q9, .inl (k10, 4001, .inr (.inl (fun _ => 0))))] H := hP
            have hD : va_D A [(h0, .inr (9, [.ref q1, .ref q3, .ref q5, .ref q7, .ref q9, .int 0, .int 0, .int 0, .int 0, .int 0, .int 0, .long 0])), (q1, .inl (k2, 4000, .inl (fun _ => 0))), (q3, .inl (k4, 28, .inr (.inl (g)))), (q5, .inl (k6, 4001, .inl (fun _ => 0))), (q7, .inl (k8, 4001, .inl (fun _ => 0))), (q9, .inl (k10, 4001, .inr (.inl (fun _ => 0))))] := hD
            have hK : va_K D vwCl [(k2, .byte), (k4, .long), (k6, .int), (k8, .int), (k10, .long)] s := hK
            refine lv_i2l hx hb dX9_init_105 rfl ?_
            refine lv_ladd hx hb dX9_init_106 ?_
            refine va_last (D := D) (i := (nI k)) (x := ((((g) (Int32.toNatClampNeg (nI k))) * 37) + ((kwc i - 97 + 1)).toInt64)) hx hb hK hP hD hS 2 1 rfl rfl (vp_in_nI (by omega) (by omega)) dX9_init_107 (fun H locs hP hD hS => ?_)
            have hP : va_P D vwCl [(h0, .inr (9, [.ref q1, .ref q3, .ref q5, .ref q7, .ref q9, .int 0, .int 0, .int 0, .int 0, .int 0, .int 0, .long 0])), (q1, .inl (k2, 4000, .inl (fun _ => 0))), (q3, .inl (k4, 28, .inr (.inl (vp_updL g (Int32.toNatClampNeg (nI k)) ((((g) (Int32.toNatClampNeg (nI k))) * 37) + ((kwc i - 97 + 1)).toInt64))))), (q5, .inl (k6, 4001, .inl (fun _ => 0))), (q7, .inl (k8, 4001, .inl (fun _ => 0))), (q9, .inl (k10, 4001, .inr (.inl (fun _ => 0))))] H := hP
            have hD : va_D A [(h0, .inr (9, [.ref q1, .ref q3, .ref q5, .ref q7, .ref q9, .int 0, .int 0, .int 0, .int 0, .int 0, .int 0, .long 0])), (q1, .inl (k2, 4000, .inl (fun _ => 0))), (q3, .inl (k4, 28, .inr (.inl (vp_updL g (Int32.toNatClampNeg (nI k)) ((((g) (Int32.toNatClampNeg (nI k))) * 37) + ((kwc i - 97 + 1)).toInt64))))), (q5, .inl (k6, 4001, .inl (fun _ => 0))), (q7, .inl (k8, 4001, .inl (fun _ => 0))), (q9, .inl (k10, 4001, .inr (.inl (fun _ => 0))))] := hD
            obtain ⟨f24, hf24⟩ : ∃ z, z = vp_updL g (Int32.toNatClampNeg (nI k)) ((((g) (Int32.toNatClampNeg (nI k))) * 37) + ((kwc i - 97 + 1)).toInt64) := ⟨_, rfl⟩
            rw [← hf24] at hP hD
            refine lv_iinc (v := (nI (i + 1))) (lv' := [(2, .int (nI (i + 1))), (3, .int (kwc i)), (1, .int (nI k)), (0, .ref h0)]) hx hb dX9_init_108 hl (k := 1) rfl (nI_1 _) (by decide) rfl (fun ls hl => ?_)
            refine lv_goto (tgt := 52) hx hb dX9_init_111 (by decide) ?_
            exact ih (i + 1) k f24 H locs ls (by omega) (by omega) (by rw [hsp, sp, if_neg c20]; rfl) (by intro j; rw [hf24, nI_clamp (by omega), kc_n c20]; exact kc_up hsp hg9 j) (by omega) (hP.sub [0, 1, 2, 3, 4, 5] rfl) (hD.sub [0, 1, 2, 3, 4, 5] (by decide) rfl) hS (lv_sub hl [0, 2, 3] rfl)
          · skip
            refine lv_iinc (v := (nI (k + 1))) (lv' := [(1, .int (nI (k + 1))), (3, .int (kwc i)), (2, .int (nI i)), (0, .ref h0)]) hx hb dX9_init_80 hl (k := 2) rfl (nI_1 _) (by decide) rfl (fun ls hl => ?_)
            refine lv_goto (tgt := 108) hx hb dX9_init_83 (by decide) ?_
            refine lv_iinc (v := (nI (i + 1))) (lv' := [(2, .int (nI (i + 1))), (1, .int (nI (k + 1))), (3, .int (kwc i)), (0, .ref h0)]) hx hb dX9_init_108 hl (k := 2) rfl (nI_1 _) (by decide) rfl (fun ls hl => ?_)
            refine lv_goto (tgt := 52) hx hb dX9_init_111 (by decide) ?_
            exact ih (i + 1) (k + 1) g H locs ls (by omega) (by omega) (by rw [hsp, sp, if_pos c20]) (by intro j; rw [kc_p c20]; exact hg9 j) (by omega) (hP.sub [0, 1, 2, 3, 4, 5] rfl) (hD.sub [0, 1, 2, 3, 4, 5] (by decide) rfl) hS (lv_sub hl [0, 1, 3] rfl)
  exact lp11 156 0 0 _ H locs ls (by omega) (by omega) rfl (fun _ => rfl) (by omega) hP hD hS hl
end
section
/-! worlds with a part that is not written out -/
theorem va_Pl {D : va_G} {ws R : va_W} {H : Heap} (h : va_P D vwCl (ws ++ R) H) : va_P D vwCl ws H := fun k q hq => h k q (by rw [List.getElem?_append_left (List.getElem?_eq_some_iff.mp hq).1]; exact hq)
theorem va_Pr {D : va_G} {ws R : va_W} {H : Heap} (h : va_P D vwCl (ws ++ R) H) : va_P D vwCl R H := fun k q hq => h (ws.length + k) q (by rw [List.getElem?_append_right (Nat.le_add_right _ _), Nat.add_sub_cancel_left]; exact hq)
theorem va_Pap {D : va_G} {ws R : va_W} {H : Heap} (h1 : va_P D vwCl ws H) (h2 : va_P D vwCl R H) : va_P D vwCl (ws ++ R) H := by
  intro k q hq
  rcases Nat.lt_or_ge k ws.length with h | h
  · rw [List.getElem?_append_left h] at hq
    exact h1 k q hq
  · rw [List.getElem?_append_right h] at hq
    exact h2 _ q hq
theorem va_Dl {A : Nat → Prop} {ws R : va_W} (h : va_D A (ws ++ R)) : va_D A ws := by
  have e : ∀ (k : Nat) (q : Nat × va_E), ws[k]? = some q → (ws ++ R)[k]? = some q := fun k q hq => by rw [List.getElem?_append_left (List.getElem?_eq_some_iff.mp hq).1]; exact hq
  exact ⟨fun i j p q h1 h2 z => h.1 i j p q (e i p h1) (e j q h2) z, fun k q hq => h.2 k q (e k q hq)⟩
theorem va_Dr {A : Nat → Prop} {ws R : va_W} (h : va_D A (ws ++ R)) : va_D A R := by
  have e : ∀ (k : Nat) (q : Nat × va_E), R[k]? = some q → (ws ++ R)[ws.length + k]? = some q := fun k q hq => by rw [List.getElem?_append_right (Nat.le_add_right _ _), Nat.add_sub_cancel_left]; exact hq
  exact ⟨fun i j p q h1 h2 z => Nat.add_left_cancel (h.1 _ _ p q (e i p h1) (e j q h2) z), fun k q hq => h.2 _ q (e k q hq)⟩
theorem dj_ap {A : Nat → Prop} {ws R : va_W} (h : va_D A (ws ++ R)) : dj ws R := by
  intro i j p q h1 h2 z
  have l := (List.getElem?_eq_some_iff.mp h1).1
  have := h.1 i (ws.length + j) p q (by rw [List.getElem?_append_left l]; exact h1) (by rw [List.getElem?_append_right (Nat.le_add_right _ _), Nat.add_sub_cancel_left]; exact h2) z
  omega
theorem va_Dap {A : Nat → Prop} {ws R : va_W} (h1 : va_D A ws) (h2 : va_D A R) (hd : dj ws R) : va_D A (ws ++ R) := by
  have c : ∀ (k : Nat) (q : Nat × va_E), (ws ++ R)[k]? = some q → (k < ws.length ∧ ws[k]? = some q) ∨ (ws.length ≤ k ∧ R[k - ws.length]? = some q) := by
    intro k q hq
    rcases Nat.lt_or_ge k ws.length with h | h
    · rw [List.getElem?_append_left h] at hq
      exact Or.inl ⟨h, hq⟩
    · rw [List.getElem?_append_right h] at hq
      exact Or.inr ⟨h, hq⟩
  refine ⟨fun i j p q a1 a2 z => ?_, fun k q hq => ?_⟩
  · rcases c i p a1 with ⟨b1, b2⟩ | ⟨b1, b2⟩ <;> rcases c j q a2 with ⟨d1, d2⟩ | ⟨d1, d2⟩
    · exact h1.1 i j p q b2 d2 z
    · exact absurd z (hd i _ p q b2 d2)
    · exact absurd z.symm (hd j _ q p d2 b2)
    · have := h2.1 _ _ p q b2 d2 z
      omega
  · rcases c k q hq with ⟨_, b⟩ | ⟨_, b⟩
    · exact h1.2 k q b
    · exact h2.2 _ q b
theorem dj_app {w1 w2 R : va_W} (h1 : dj w1 R) (h2 : dj w2 R) : dj (w1 ++ w2) R := by
  intro i j p q a1 a2
  rcases Nat.lt_or_ge i w1.length with h | h
  · rw [List.getElem?_append_left h] at a1
    exact h1 i j p q a1 a2
  · rw [List.getElem?_append_right h] at a1
    exact h2 _ j p q a1 a2
theorem dj_l {w1 w2 R : va_W} (h : dj (w1 ++ w2) R) : dj w1 R := fun i j p q a1 a2 => h i j p q (by rw [List.getElem?_append_left (List.getElem?_eq_some_iff.mp a1).1]; exact a1) a2
theorem dj_r {w1 w2 R : va_W} (h : dj (w1 ++ w2) R) : dj w2 R := fun i j p q a1 a2 => h (w1.length + i) j p q (by rw [List.getElem?_append_right (Nat.le_add_right _ _), Nat.add_sub_cancel_left]; exact a1) a2
theorem sub_in {e wc : va_W} {isC : List Nat} (hC : isC.map (fun i => e[i]?) = wc.map some) {k : Nat} {p : Nat × va_E} (h : wc[k]? = some p) : ∃ i : Nat, e[i]? = some p := by
  have h1 : (isC.map (fun i => e[i]?))[k]? = some (some p) := by rw [hC, List.getElem?_map, h]; rfl
  rw [List.getElem?_map] at h1
  cases hi : isC[k]? with
  | none => rw [hi] at h1; cases h1
  | some i => rw [hi] at h1; exact ⟨i, Option.some.inj h1⟩
theorem dj_sub {e wc R : va_W} (isC : List Nat) (hC : isC.map (fun i => e[i]?) = wc.map some) (h : dj e R) : dj wc R := by
  intro i j p q a1 a2
  obtain ⟨k, hk⟩ := sub_in hC a1
  exact h k j p q hk a2
theorem va_Prot {D : va_G} {e R : va_W} {x : Nat × va_E} {H : Heap} (h : va_P D vwCl ((e ++ R) ++ [x]) H) : va_P D vwCl ((e ++ [x]) ++ R) H := va_Pap (va_Pap (va_Pl (va_Pl h)) (va_Pr h)) (va_Pr (va_Pl h))
theorem va_Drot {A : Nat → Prop} {e R : va_W} {x : Nat × va_E} (h : va_D A ((e ++ R) ++ [x])) : va_D A ((e ++ [x]) ++ R) :=
  va_Dap (va_Dap (va_Dl (va_Dl h)) (va_Dr h) (dj_l (dj_ap h))) (va_Dr (va_Dl h)) (dj_app (dj_ap (va_Dl h)) (dj_r (dj_ap h)).sy)
theorem va_Kl {D : va_G} {t R : List (ClassId × FieldType)} {s : State} (h : va_K D vwCl (t ++ R) s) : va_K D vwCl t s := ⟨h.1, fun k q hq => h.2 k q (by rw [List.getElem?_append_left (List.getElem?_eq_some_iff.mp hq).1]; exact hq)⟩
theorem va_Kr {D : va_G} {t R : List (ClassId × FieldType)} {s : State} (h : va_K D vwCl (t ++ R) s) : va_K D vwCl R s := ⟨h.1, fun k q hq => h.2 (t.length + k) q (by rw [List.getElem?_append_right (Nat.le_add_right _ _), Nat.add_sub_cancel_left]; exact hq)⟩
section GR
variable {p : Program} {l : Launch} {e : Env} {R : Room} {s : State} {m : MethodId} {args : Array Value} {below : List Frame} {meth : Method} {c : Code} {H : Heap} {locs : List Loc} {cells slots : Nat} {Q : State → Prop}
variable {pc : Nat} {ls : Array Slot} {st0 rest : List Value} {D : va_G} {A : Nat → Prop} {te tr RT : List (ClassId × FieldType)} {we wc wr RW : va_W}
theorem gR_void {S : Type} {post : S → Prop} {wq : S → va_W} {tq : S → List (ClassId × FieldType)} {mc ms : Nat} {av : Array Value} (hr : va_Run p l e R s m args below meth c H locs cells slots mc ms (F0 m pc ls st0) rest (va_Qv post (fun u t => gq D (va_A wc H.size) (wq u) (tq u) t) (va_A wc H.size) av) (va_A wc H.size))
    (hP : va_P D vwCl (we ++ RW) H) (hD : va_D A (we ++ RW)) (hK : va_K D vwCl (te ++ RT) s) (hS : va_S A s.heap H locs) (hA : ∀ q, s.heap.size ≤ q → A q) (isC isR isU : List Nat) (hC : isC.map (fun i => we[i]?) = wc.map some) (hR : isR.map (fun i => we[i]?) = wr.map some) (hn : va_nd isR = true) (hdis : ∀ i ∈ isR, i ∉ isC) (hU : isU.filterMap (fun i => te[i]?) = tr)
    (kk : ∀ (u : S) (H1 : Heap) (locs1 : List Loc), post u → va_P D vwCl ((wr ++ wq u) ++ RW) H1 → va_D A ((wr ++ wq u) ++ RW) → va_K D vwCl ((tr ++ tq u) ++ RT) s → va_S A s.heap H1 locs1 → W p l e R s m args below meth c H1 locs1 (cells + mc) (slots + ms) Q (F0 m (pc + 3) ls rest)) : W p l e R s m args below meth c H locs cells slots Q (F0 m pc ls st0) := by
  have hPe := va_Pl hP
  have hDe := va_Dl hD
  have hd := dj_ap hD
  have hF := va_free (wc := wc) hDe hS hA isC hC
  have hdc : dj wc RW := dj_sub isC hC hd
  refine va_callv hr hS (fun q _ h => hF q h) hF (fun u t H1 locs ht hvm hw hB hz1 hk1 hS => ?_)
  obtain ⟨hP1, hK1, hD1⟩ := hB
  rw [ht] at hP1
  obtain ⟨hP2, hD2⟩ := va_join hPe hDe isC isR hC hR hn hdis hk1 hF hP1 hD1
  exact kk u H1 locs hw (va_Pap hP2 (va_side (va_Pr hP) hdc hk1)) (va_Dap hD2 (va_Dr hD) (dj_app (dj_sub isR hR hd) (dj_side (va_Pr hP) hdc hD1))) ((((va_Kl hK).sub isU hU).app (va_K.moved hvm.symm hK1)).app (va_Kr hK)) hS
end GR
def RC {β : Type} (blk : β → va_W) (d : Nat → β) : Nat → va_W
  | 0 => []
  | n + 1 => blk (d n) ++ RC blk d n
theorem RC_ext {β : Type} {blk : β → va_W} {d d' : Nat → β} : ∀ n, (∀ k, k < n → d' k = d k) → RC blk d' n = RC blk d n
  | 0, _ => rfl
  | n + 1, h => by
    show blk (d' n) ++ RC blk d' n = blk (d n) ++ RC blk d n
    rw [h n (by omega), RC_ext n (fun k hk => h k (by omega))]
theorem RC_up {β : Type} {blk : β → va_W} {d : Nat → β} {x : β} (n : Nat) : RC blk (fun j => if j = n then x else d j) (n + 1) = blk x ++ RC blk d n := by
  show blk (if n = n then x else d n) ++ RC blk (fun j => if j = n then x else d j) n = _
  rw [if_pos rfl, RC_ext n (fun k hk => if_neg (by omega))]
def RTy {β : Type} (t : β → List (ClassId × FieldType)) (d : Nat → β) : Nat → List (ClassId × FieldType)
  | 0 => []
  | n + 1 => t (d n) ++ RTy t d n
theorem RTy_ext {β : Type} {t : β → List (ClassId × FieldType)} {d d' : Nat → β} : ∀ n, (∀ k, k < n → d' k = d k) → RTy t d' n = RTy t d n
  | 0, _ => rfl
  | n + 1, h => by
    show t (d' n) ++ RTy t d' n = t (d n) ++ RTy t d n
    rw [h n (by omega), RTy_ext n (fun k hk => h k (by omega))]
theorem RTy_up {β : Type} {t : β → List (ClassId × FieldType)} {d : Nat → β} {x : β} (n : Nat) : RTy t (fun j => if j = n then x else d j) (n + 1) = t x ++ RTy t d n := by
  show t (if n = n then x else d n) ++ RTy t (fun j => if j = n then x else d j) n = _
  rw [if_pos rfl, RTy_ext n (fun k hk => if_neg (by omega))]
theorem up_fn {β : Type} {fst : β → Nat} {d : Nat → β} {x : β} {n : Nat} : va_up (fun q => if q < n then some (fst (d q)) else none) n (some (fst x)) = (fun q => if q < n + 1 then some (fst (if q = n then x else d q)) else none) := by
  funext q
  show (if q = n then some (fst x) else if q < n then some (fst (d q)) else none) = _
  by_cases h : q = n
  · rw [if_pos h, if_pos (by omega), if_pos h]
  · rw [if_neg h]
    by_cases h2 : q < n
    · rw [if_pos h2, if_pos (by omega), if_neg h]
    · rw [if_neg h2, if_neg (by omega)]
theorem RC_get {β : Type} {blk : β → va_W} {d : Nat → β} {m : Nat} (hm : ∀ x, (blk x).length = m) : ∀ (n i t : Nat) (rest : va_W), i < n → t < m → (RC blk d n ++ rest)[m * (n - 1 - i) + t]? = (blk (d i))[t]?
  | 0, i, t, rest, h, _ => absurd h (Nat.not_lt_zero _)
  | n + 1, i, t, rest, h, ht => by
    show ((blk (d n) ++ RC blk d n) ++ rest)[_]? = _
    rw [List.append_assoc]
    by_cases e : i = n
    · subst e
      rw [show m * (i + 1 - 1 - i) + t = t from by rw [show i + 1 - 1 - i = 0 from by omega]; omega, List.getElem?_append_left (by rw [hm]; exact ht)]
    · have ih := RC_get (d := d) hm n i t rest (by omega) ht
      have e2 : m * (n + 1 - 1 - i) + t = m + (m * (n - 1 - i) + t) := by
        rw [show n + 1 - 1 - i = (n - 1 - i) + 1 from by omega, Nat.mul_succ]
        omega
      rw [e2, List.getElem?_append_right (by rw [hm]; omega), hm, Nat.add_sub_cancel_left]
      exact ih
theorem RC_len {β : Type} {blk : β → va_W} {d : Nat → β} {m : Nat} (hm : ∀ x, (blk x).length = m) : ∀ n, (RC blk d n).length = m * n
  | 0 => rfl
  | n + 1 => by
    show (blk (d n) ++ RC blk d n).length = _
    rw [List.length_append, hm, RC_len hm n, Nat.mul_succ, Nat.add_comm]
abbrev CU : Type := Nat × Nat × Nat × Nat × Nat × ClassId × ClassId × ClassId × ClassId
def cblk (x : CU) : va_W := [(x.1, .inr (3, [.ref x.2.1, .ref x.2.2.1, .ref x.2.2.2.1, .ref x.2.2.2.2.1, .int 0, .int 0, .int 0, .int 0, .int 0, .int 0, .int 0, .int 0, .int 0])), (x.2.1, .inl (x.2.2.2.2.2.1, 8, .inl (fun _ => 0))), (x.2.2.1, .inl (x.2.2.2.2.2.2.1, 8, .inl (fun _ => 0))), (x.2.2.2.1, .inl (x.2.2.2.2.2.2.2.1, 8, .inl (fun _ => 0))), (x.2.2.2.2.1, .inl (x.2.2.2.2.2.2.2.2, 20, .inl (fun _ => 0)))]
def cty (x : CU) : List (ClassId × FieldType) := [(x.2.2.2.2.2.1, .int), (x.2.2.2.2.2.2.1, .int), (x.2.2.2.2.2.2.2.1, .int), (x.2.2.2.2.2.2.2.2, .int)]
def wblk (x : Nat) : va_W := [(x, .inr (10, [.int 0, .int 0, .int 0, .int 0, .int 0]))]
abbrev BU : Type := (Nat → Nat) × (Nat → ClassId) × (Nat → CU) × (Nat → Nat)
def be17 (h : Nat) (u : BU) : va_W := [(h, .inr (0, [.ref (u.1 1), .ref (u.1 2), .ref (u.1 3), .ref (u.1 4), .ref (u.1 5), .ref (u.1 11), .ref (u.1 12), .ref (u.1 13), .ref (u.1 14), .ref (u.1 15), .ref (u.1 16), .int 0, .int 0])), (u.1 1, .inr (6, [.ref (u.1 6), .int 0])), (u.1 2, .inr (6, [.ref (u.1 7), .int 0])), (u.1 3, .inr (6, [.ref (u.1 8), .int 0])), (u.1 4, .inr (6, [.ref (u.1 9), .int 0])), (u.1 5, .inr (6, [.ref (u.1 10), .int 0])), (u.1 6, .inl (u.2.1 6, 24, .inr (.inl (fun _ => 0)))), (u.1 7, .inl (u.2.1 7, 12, .inr (.inl (fun _ => 0)))), (u.1 8, .inl (u.2.1 8, 24, .inr (.inl (fun _ => 0)))), (u.1 9, .inl (u.2.1 9, 20, .inr (.inl (fun _ => 0)))), (u.1 10, .inl (u.2.1 10, 20, .inr (.inl (fun _ => 0)))), (u.1 11, .inl (u.2.1 11, 24, .inl (fun _ => 0))), (u.1 12, .inl (u.2.1 12, 12, .inl (fun _ => 0))), (u.1 13, .inl (u.2.1 13, 24, .inr (.inr (.inr (.inr (fun q => if q < 24 then some (u.2.2.1 q).1 else none)))))), (u.1 14, .inl (u.2.1 14, 12, .inr (.inr (.inr (.inr (fun q => if q < 12 then some (u.2.2.2 q) else none)))))), (u.1 15, .inl (u.2.1 15, 12, .inl (fun _ => 0))), (u.1 16, .inl (u.2.1 16, 8200, .inl (fun _ => 0)))]
def bt11 (u : BU) : List (ClassId × FieldType) := [(u.2.1 6, .long), (u.2.1 7, .long), (u.2.1 8, .long), (u.2.1 9, .long), (u.2.1 10, .long), (u.2.1 11, .int), (u.2.1 12, .int), (u.2.1 13, .object RX3), (u.2.1 14, .object RX10), (u.2.1 15, .int), (u.2.1 16, .int)]
def bkw (h : Nat) (u : BU) : va_W := be17 h u ++ (RC wblk u.2.2.2 12 ++ RC cblk u.2.2.1 24)
def bkt (u : BU) : List (ClassId × FieldType) := bt11 u ++ RTy cty u.2.2.1 24

theorem w472 : Cond.methodLink RX0 3 objectInit ∈ GW := gw_k tk9_2 77 (by decide +kernel) rfl
theorem nfX6 : ∀ j, j < 2 → defaultValue (tyX6 j) = vp_V [.null, .int 0] j := by decide +kernel
theorem w473 : Cond.classLink RX0 9 "WiringHouse$Names" ∈ GW := gw_k tk9_2 78 (by decide +kernel) rfl
theorem w474 : Cond.instantiable RX6 2 ∈ GW := gw_k tk9_2 79 (by decide +kernel) rfl
theorem w477 : Cond.code yX6_init cX6_init 2 none ∈ GW := gw_k tk9_2 82 (rfl) rfl
theorem hdS_yX6_init : yX6_init.cls ≠ "java/lang/invoke/MethodHandle" ∧ yX6_init.cls ≠ "java/lang/invoke/VarHandle" ∧ (parseMethodDescriptor yX6_init.desc).map (fun d => d.parameters.length) = some 1 := by decide +kernel
theorem w475 : Cond.methodLink RX0 11 yX6_init ∈ GW := gw_k tk9_2 80 (by decide +kernel) rfl
theorem w476 : Cond.instanceMethod yX6_init ∈ GW := gw_k tk9_2 81 (by decide +kernel) rfl
theorem w608 : Cond.fieldLink RX0 32 "WiringHouse$Book" "typeUnder" "[I" ∈ GW := gw_k tk9_2 213 (by decide +kernel) rfl
theorem w490 : Cond.classLink RX0 39 "WiringHouse$Component" ∈ GW := gw_k tk9_2 95 (by decide +kernel) rfl
theorem w492 : Cond.classLink RX0 45 "WiringHouse$Wrap" ∈ GW := gw_k tk9_2 97 (by decide +kernel) rfl
theorem nfX10 : ∀ j, j < 5 → defaultValue (tyX10 j) = vp_V [.int 0, .int 0, .int 0, .int 0, .int 0] j := by decide +kernel
theorem w570 : Cond.instantiable RX10 5 ∈ GW := gw_k tk9_2 175 (by decide +kernel) rfl
theorem w170 : Cond.initialized RX10 ∈ GW := gw_k tk9_1 15 (by decide +kernel) rfl
theorem hdS_yX10_init : yX10_init.cls ≠ "java/lang/invoke/MethodHandle" ∧ yX10_init.cls ≠ "java/lang/invoke/VarHandle" ∧ (parseMethodDescriptor yX10_init.desc).map (fun d => d.parameters.length) = some 0 := by decide +kernel
theorem w572 : Cond.instanceMethod yX10_init ∈ GW := gw_k tk9_2 177 (by decide +kernel) rfl
theorem w573 : Cond.code yX10_init cX10_init 1 none ∈ GW := gw_k tk9_2 178 (rfl) rfl
theorem n571 : lw_tbl[571]? = some (Cond.methodLinkNest RX0 58 yX10_init "WiringHouse") := la9 (n := 155) (i := 416) lz9 (la9 (n := 240) (i := 176) ln9_1 (lb9 (i := 176) (by decide +kernel)))
theorem nfX3 : ∀ j, j < 13 → defaultValue (tyX3 j) = vp_V [.null, .null, .null, .null, .int 0, .int 0, .int 0, .int 0, .int 0, .int 0, .int 0, .int 0, .int 0] j := by decide +kernel
theorem w494 : Cond.instantiable RX3 13 ∈ GW := gw_k tk9_2 99 (by decide +kernel) rfl
theorem hdS_yX3_init : yX3_init.cls ≠ "java/lang/invoke/MethodHandle" ∧ yX3_init.cls ≠ "java/lang/invoke/VarHandle" ∧ (parseMethodDescriptor yX3_init.desc).map (fun d => d.parameters.length) = some 0 := by decide +kernel
theorem w496 : Cond.instanceMethod yX3_init ∈ GW := gw_k tk9_2 101 (by decide +kernel) rfl
theorem w497 : Cond.code yX3_init cX3_init 1 none ∈ GW := gw_k tk9_2 102 (rfl) rfl
theorem n495 : lw_tbl[495]? = some (Cond.methodLinkNest RX0 57 yX3_init "WiringHouse") := la9 (n := 155) (i := 340) lz9 (la9 (n := 240) (i := 100) ln9_1 (lb9 (i := 100) (by decide +kernel)))
theorem dk9_dX0_init_0_0 : dOk cX0_init [(0, .aload_n 0, 1), (1, .invokespecial 3, 3), (4, .aload_n 0, 1), (5, .new 9, 3), (8, .dup, 1), (9, .bipush 24, 2), (11, .invokespecial 11, 3), (14, .putfield 14, 3), (17, .aload_n 0, 1), (18, .new 9, 3), (21, .dup, 1), (22, .bipush 12, 2), (24, .invokespecial 11, 3), (27, .putfield 20, 3), (30, .aload_n 0, 1), (31, .new 9, 3), (34, .dup, 1), (35, .bipush 24, 2), (37, .invokespecial 11, 3), (40, .putfield 23, 3), (43, .aload_n 0, 1), (44, .new 9, 3), (47, .dup, 1), (48, .bipush 20, 2)] = true ∧ dOk cX0_init [(50, .invokespecial 11, 3), (53, .putfield 26, 3), (56, .aload_n 0, 1), (57, .new 9, 3), (60, .dup, 1), (61, .bipush 20, 2), (63, .invokespecial 11, 3), (66, .putfield 29, 3), (69, .aload_n 0, 1), (70, .bipush 24, 2), (72, .newarray .int, 2), (74, .putfield 32, 3), (77, .aload_n 0, 1), (78, .bipush 12, 2), (80, .newarray .int, 2), (82, .putfield 36, 3), (85, .aload_n 0, 1), (86, .bipush 24, 2), (88, .anewarray 39, 3), (91, .putfield 41, 3), (94, .aload_n 0, 1), (95, .bipush 12, 2), (97, .anewarray 45, 3), (100, .putfield 47, 3)] = true ∧ dOk cX0_init [(103, .aload_n 0, 1), (104, .bipush 12, 2), (106, .newarray .int, 2), (108, .putfield 51, 3), (111, .aload_n 0, 1), (112, .sipush 8200, 3), (115, .newarray .int, 2), (117, .putfield 54, 3), (120, .iconst 0, 1), (121, .istore_n 1, 1), (149, .iload_n 1, 1), (150, .bipush 12, 2), (152, .if_icmp .ge 22, 3), (174, .return_, 1), (155, .aload_n 0, 1), (156, .getfield 47, 3), (159, .iload_n 1, 1), (160, .new 45, 3), (163, .dup, 1), (164, .invokespecial 58, 3), (167, .aastore, 1), (168, .iinc 1 1, 3), (171, .goto (-22), 3), (122, .iload_n 1, 1)] = true ∧ dOk cX0_init [(123, .bipush 24, 2), (125, .if_icmp .ge 22, 3), (147, .iconst 0, 1), (148, .istore_n 1, 1), (128, .aload_n 0, 1), (129, .getfield 41, 3), (132, .iload_n 1, 1), (133, .new 39, 3), (136, .dup, 1), (137, .invokespecial 57, 3), (140, .aastore, 1), (141, .iinc 1 1, 3), (144, .goto (-22), 3)] = true := by decide +kernel
theorem dX0_init_0 : decode cX0_init 0 = .ok (.aload_n 0, 1) := dr9 dk9_dX0_init_0_0.1 0 (0, .aload_n 0, 1) rfl
theorem dX0_init_1 : decode cX0_init 1 = .ok (.invokespecial 3, 3) := dr9 dk9_dX0_init_0_0.1 1 (1, .invokespecial 3, 3) rfl
theorem dX0_init_4 : decode cX0_init 4 = .ok (.aload_n 0, 1) := dr9 dk9_dX0_init_0_0.1 2 (4, .aload_n 0, 1) rfl
theorem dX0_init_5 : decode cX0_init 5 = .ok (.new 9, 3) := dr9 dk9_dX0_init_0_0.1 3 (5, .new 9, 3) rfl
theorem dX0_init_8 : decode cX0_init 8 = .ok (.dup, 1) := dr9 dk9_dX0_init_0_0.1 4 (8, .dup, 1) rfl
theorem dX0_init_9 : decode cX0_init 9 = .ok (.bipush 24, 2) := dr9 dk9_dX0_init_0_0.1 5 (9, .bipush 24, 2) rfl
theorem dX0_init_11 : decode cX0_init 11 = .ok (.invokespecial 11, 3) := dr9 dk9_dX0_init_0_0.1 6 (11, .invokespecial 11, 3) rfl
theorem dX0_init_14 : decode cX0_init 14 = .ok (.putfield 14, 3) := dr9 dk9_dX0_init_0_0.1 7 (14, .putfield 14, 3) rfl
theorem dX0_init_17 : decode cX0_init 17 = .ok (.aload_n 0, 1) := dr9 dk9_dX0_init_0_0.1 8 (17, .aload_n 0, 1) rfl
theorem dX0_init_18 : decode cX0_init 18 = .ok (.new 9, 3) := dr9 dk9_dX0_init_0_0.1 9 (18, .new 9, 3) rfl
theorem dX0_init_21 : decode cX0_init 21 = .ok (.dup, 1) := dr9 dk9_dX0_init_0_0.1 10 (21, .dup, 1) rfl
theorem dX0_init_22 : decode cX0_init 22 = .ok (.bipush 12, 2) := dr9 dk9_dX0_init_0_0.1 11 (22, .bipush 12, 2) rfl
theorem dX0_init_24 : decode cX0_init 24 = .ok (.invokespecial 11, 3) := dr9 dk9_dX0_init_0_0.1 12 (24, .invokespecial 11, 3) rfl
theorem dX0_init_27 : decode cX0_init 27 = .ok (.putfield 20, 3) := dr9 dk9_dX0_init_0_0.1 13 (27, .putfield 20, 3) rfl
theorem dX0_init_30 : decode cX0_init 30 = .ok (.aload_n 0, 1) := dr9 dk9_dX0_init_0_0.1 14 (30, .aload_n 0, 1) rfl
theorem dX0_init_31 : decode cX0_init 31 = .ok (.new 9, 3) := dr9 dk9_dX0_init_0_0.1 15 (31, .new 9, 3) rfl
theorem dX0_init_34 : decode cX0_init 34 = .ok (.dup, 1) := dr9 dk9_dX0_init_0_0.1 16 (34, .dup, 1) rfl
theorem dX0_init_35 : decode cX0_init 35 = .ok (.bipush 24, 2) := dr9 dk9_dX0_init_0_0.1 17 (35, .bipush 24, 2) rfl
theorem dX0_init_37 : decode cX0_init 37 = .ok (.invokespecial 11, 3) := dr9 dk9_dX0_init_0_0.1 18 (37, .invokespecial 11, 3) rfl
theorem dX0_init_40 : decode cX0_init 40 = .ok (.putfield 23, 3) := dr9 dk9_dX0_init_0_0.1 19 (40, .putfield 23, 3) rfl
theorem dX0_init_43 : decode cX0_init 43 = .ok (.aload_n 0, 1) := dr9 dk9_dX0_init_0_0.1 20 (43, .aload_n 0, 1) rfl
theorem dX0_init_44 : decode cX0_init 44 = .ok (.new 9, 3) := dr9 dk9_dX0_init_0_0.1 21 (44, .new 9, 3) rfl
theorem dX0_init_47 : decode cX0_init 47 = .ok (.dup, 1) := dr9 dk9_dX0_init_0_0.1 22 (47, .dup, 1) rfl
theorem dX0_init_48 : decode cX0_init 48 = .ok (.bipush 20, 2) := dr9 dk9_dX0_init_0_0.1 23 (48, .bipush 20, 2) rfl
theorem dX0_init_50 : decode cX0_init 50 = .ok (.invokespecial 11, 3) := dr9 dk9_dX0_init_0_0.2.1 0 (50, .invokespecial 11, 3) rfl
theorem dX0_init_53 : decode cX0_init 53 = .ok (.putfield 26, 3) := dr9 dk9_dX0_init_0_0.2.1 1 (53, .putfield 26, 3) rfl
theorem dX0_init_56 : decode cX0_init 56 = .ok (.aload_n 0, 1) := dr9 dk9_dX0_init_0_0.2.1 2 (56, .aload_n 0, 1) rfl
theorem dX0_init_57 : decode cX0_init 57 = .ok (.new 9, 3) := dr9 dk9_dX0_init_0_0.2.1 3 (57, .new 9, 3) rfl
theorem dX0_init_60 : decode cX0_init 60 = .ok (.dup, 1) := dr9 dk9_dX0_init_0_0.2.1 4 (60, .dup, 1) rfl
theorem dX0_init_61 : decode cX0_init 61 = .ok (.bipush 20, 2) := dr9 dk9_dX0_init_0_0.2.1 5 (61, .bipush 20, 2) rfl
theorem dX0_init_63 : decode cX0_init 63 = .ok (.invokespecial 11, 3) := dr9 dk9_dX0_init_0_0.2.1 6 (63, .invokespecial 11, 3) rfl
theorem dX0_init_66 : decode cX0_init 66 = .ok (.putfield 29, 3) := dr9 dk9_dX0_init_0_0.2.1 7 (66, .putfield 29, 3) rfl
theorem dX0_init_69 : decode cX0_init 69 = .ok (.aload_n 0, 1) := dr9 dk9_dX0_init_0_0.2.1 8 (69, .aload_n 0, 1) rfl
theorem dX0_init_70 : decode cX0_init 70 = .ok (.bipush 24, 2) := dr9 dk9_dX0_init_0_0.2.1 9 (70, .bipush 24, 2) rfl
theorem dX0_init_72 : decode cX0_init 72 = .ok (.newarray .int, 2) := dr9 dk9_dX0_init_0_0.2.1 10 (72, .newarray .int, 2) rfl
theorem dX0_init_74 : decode cX0_init 74 = .ok (.putfield 32, 3) := dr9 dk9_dX0_init_0_0.2.1 11 (74, .putfield 32, 3) rfl
theorem dX0_init_77 : decode cX0_init 77 = .ok (.aload_n 0, 1) := dr9 dk9_dX0_init_0_0.2.1 12 (77, .aload_n 0, 1) rfl
theorem dX0_init_78 : decode cX0_init 78 = .ok (.bipush 12, 2) := dr9 dk9_dX0_init_0_0.2.1 13 (78, .bipush 12, 2) rfl
theorem dX0_init_80 : decode cX0_init 80 = .ok (.newarray .int, 2) := dr9 dk9_dX0_init_0_0.2.1 14 (80, .newarray .int, 2) rfl
theorem dX0_init_82 : decode cX0_init 82 = .ok (.putfield 36, 3) := dr9 dk9_dX0_init_0_0.2.1 15 (82, .putfield 36, 3) rfl
theorem dX0_init_85 : decode cX0_init 85 = .ok (.aload_n 0, 1) := dr9 dk9_dX0_init_0_0.2.1 16 (85, .aload_n 0, 1) rfl
theorem dX0_init_86 : decode cX0_init 86 = .ok (.bipush 24, 2) := dr9 dk9_dX0_init_0_0.2.1 17 (86, .bipush 24, 2) rfl
theorem dX0_init_88 : decode cX0_init 88 = .ok (.anewarray 39, 3) := dr9 dk9_dX0_init_0_0.2.1 18 (88, .anewarray 39, 3) rfl
theorem dX0_init_91 : decode cX0_init 91 = .ok (.putfield 41, 3) := dr9 dk9_dX0_init_0_0.2.1 19 (91, .putfield 41, 3) rfl
theorem dX0_init_94 : decode cX0_init 94 = .ok (.aload_n 0, 1) := dr9 dk9_dX0_init_0_0.2.1 20 (94, .aload_n 0, 1) rfl
theorem dX0_init_95 : decode cX0_init 95 = .ok (.bipush 12, 2) := dr9 dk9_dX0_init_0_0.2.1 21 (95, .bipush 12, 2) rfl
theorem dX0_init_97 : decode cX0_init 97 = .ok (.anewarray 45, 3) := dr9 dk9_dX0_init_0_0.2.1 22 (97, .anewarray 45, 3) rfl
theorem dX0_init_100 : decode cX0_init 100 = .ok (.putfield 47, 3) := dr9 dk9_dX0_init_0_0.2.1 23 (100, .putfield 47, 3) rfl
theorem dX0_init_103 : decode cX0_init 103 = .ok (.aload_n 0, 1) := dr9 dk9_dX0_init_0_0.2.2.1 0 (103, .aload_n 0, 1) rfl
theorem dX0_init_104 : decode cX0_init 104 = .ok (.bipush 12, 2) := dr9 dk9_dX0_init_0_0.2.2.1 1 (104, .bipush 12, 2) rfl
theorem dX0_init_106 : decode cX0_init 106 = .ok (.newarray .int, 2) := dr9 dk9_dX0_init_0_0.2.2.1 2 (106, .newarray .int, 2) rfl
theorem dX0_init_108 : decode cX0_init 108 = .ok (.putfield 51, 3) := dr9 dk9_dX0_init_0_0.2.2.1 3 (108, .putfield 51, 3) rfl
theorem dX0_init_111 : decode cX0_init 111 = .ok (.aload_n 0, 1) := dr9 dk9_dX0_init_0_0.2.2.1 4 (111, .aload_n 0, 1) rfl
theorem dX0_init_112 : decode cX0_init 112 = .ok (.sipush 8200, 3) := dr9 dk9_dX0_init_0_0.2.2.1 5 (112, .sipush 8200, 3) rfl
theorem dX0_init_115 : decode cX0_init 115 = .ok (.newarray .int, 2) := dr9 dk9_dX0_init_0_0.2.2.1 6 (115, .newarray .int, 2) rfl
theorem dX0_init_117 : decode cX0_init 117 = .ok (.putfield 54, 3) := dr9 dk9_dX0_init_0_0.2.2.1 7 (117, .putfield 54, 3) rfl
theorem dX0_init_120 : decode cX0_init 120 = .ok (.iconst 0, 1) := dr9 dk9_dX0_init_0_0.2.2.1 8 (120, .iconst 0, 1) rfl
theorem dX0_init_121 : decode cX0_init 121 = .ok (.istore_n 1, 1) := dr9 dk9_dX0_init_0_0.2.2.1 9 (121, .istore_n 1, 1) rfl
theorem dX0_init_149 : decode cX0_init 149 = .ok (.iload_n 1, 1) := dr9 dk9_dX0_init_0_0.2.2.1 10 (149, .iload_n 1, 1) rfl
theorem dX0_init_150 : decode cX0_init 150 = .ok (.bipush 12, 2) := dr9 dk9_dX0_init_0_0.2.2.1 11 (150, .bipush 12, 2) rfl
theorem dX0_init_152 : decode cX0_init 152 = .ok (.if_icmp .ge 22, 3) := dr9 dk9_dX0_init_0_0.2.2.1 12 (152, .if_icmp .ge 22, 3) rfl
theorem dX0_init_174 : decode cX0_init 174 = .ok (.return_, 1) := dr9 dk9_dX0_init_0_0.2.2.1 13 (174, .return_, 1) rfl
theorem dX0_init_155 : decode cX0_init 155 = .ok (.aload_n 0, 1) := dr9 dk9_dX0_init_0_0.2.2.1 14 (155, .aload_n 0, 1) rfl
theorem dX0_init_156 : decode cX0_init 156 = .ok (.getfield 47, 3) := dr9 dk9_dX0_init_0_0.2.2.1 15 (156, .getfield 47, 3) rfl
theorem dX0_init_159 : decode cX0_init 159 = .ok (.iload_n 1, 1) := dr9 dk9_dX0_init_0_0.2.2.1 16 (159, .iload_n 1, 1) rfl
theorem dX0_init_160 : decode cX0_init 160 = .ok (.new 45, 3) := dr9 dk9_dX0_init_0_0.2.2.1 17 (160, .new 45, 3) rfl
theorem dX0_init_163 : decode cX0_init 163 = .ok (.dup, 1) := dr9 dk9_dX0_init_0_0.2.2.1 18 (163, .dup, 1) rfl
theorem dX0_init_164 : decode cX0_init 164 = .ok (.invokespecial 58, 3) := dr9 dk9_dX0_init_0_0.2.2.1 19 (164, .invokespecial 58, 3) rfl
theorem dX0_init_167 : decode cX0_init 167 = .ok (.aastore, 1) := dr9 dk9_dX0_init_0_0.2.2.1 20 (167, .aastore, 1) rfl
theorem dX0_init_168 : decode cX0_init 168 = .ok (.iinc 1 1, 3) := dr9 dk9_dX0_init_0_0.2.2.1 21 (168, .iinc 1 1, 3) rfl
theorem dX0_init_171 : decode cX0_init 171 = .ok (.goto (-22), 3) := dr9 dk9_dX0_init_0_0.2.2.1 22 (171, .goto (-22), 3) rfl
theorem dX0_init_122 : decode cX0_init 122 = .ok (.iload_n 1, 1) := dr9 dk9_dX0_init_0_0.2.2.1 23 (122, .iload_n 1, 1) rfl
theorem dX0_init_123 : decode cX0_init 123 = .ok (.bipush 24, 2) := dr9 dk9_dX0_init_0_0.2.2.2 0 (123, .bipush 24, 2) rfl
theorem dX0_init_125 : decode cX0_init 125 = .ok (.if_icmp .ge 22, 3) := dr9 dk9_dX0_init_0_0.2.2.2 1 (125, .if_icmp .ge 22, 3) rfl
theorem dX0_init_147 : decode cX0_init 147 = .ok (.iconst 0, 1) := dr9 dk9_dX0_init_0_0.2.2.2 2 (147, .iconst 0, 1) rfl
theorem dX0_init_148 : decode cX0_init 148 = .ok (.istore_n 1, 1) := dr9 dk9_dX0_init_0_0.2.2.2 3 (148, .istore_n 1, 1) rfl
theorem dX0_init_128 : decode cX0_init 128 = .ok (.aload_n 0, 1) := dr9 dk9_dX0_init_0_0.2.2.2 4 (128, .aload_n 0, 1) rfl
theorem dX0_init_129 : decode cX0_init 129 = .ok (.getfield 41, 3) := dr9 dk9_dX0_init_0_0.2.2.2 5 (129, .getfield 41, 3) rfl
theorem dX0_init_132 : decode cX0_init 132 = .ok (.iload_n 1, 1) := dr9 dk9_dX0_init_0_0.2.2.2 6 (132, .iload_n 1, 1) rfl
theorem dX0_init_133 : decode cX0_init 133 = .ok (.new 39, 3) := dr9 dk9_dX0_init_0_0.2.2.2 7 (133, .new 39, 3) rfl
theorem dX0_init_136 : decode cX0_init 136 = .ok (.dup, 1) := dr9 dk9_dX0_init_0_0.2.2.2 8 (136, .dup, 1) rfl
theorem dX0_init_137 : decode cX0_init 137 = .ok (.invokespecial 57, 3) := dr9 dk9_dX0_init_0_0.2.2.2 9 (137, .invokespecial 57, 3) rfl
theorem dX0_init_140 : decode cX0_init 140 = .ok (.aastore, 1) := dr9 dk9_dX0_init_0_0.2.2.2 10 (140, .aastore, 1) rfl
theorem dX0_init_141 : decode cX0_init 141 = .ok (.iinc 1 1, 3) := dr9 dk9_dX0_init_0_0.2.2.2 11 (141, .iinc 1 1, 3) rfl
theorem dX0_init_144 : decode cX0_init 144 = .ok (.goto (-22), 3) := dr9 dk9_dX0_init_0_0.2.2.2 12 (144, .goto (-22), 3) rfl
abbrev r_c_Book_init : Room := { frames := 2, cells := 148, slots := 9822, locals := 41 }
abbrev q_c_Book_init (D : va_G) (h0 : Nat) (A : Nat → Prop) : Array Value → State → Outcome → State → Prop := va_Qv (fun (_ : BU) => True) (fun u t => gq D A ((fun (u : BU) => bkw h0 u) u) ((fun (u : BU) => bkt u) u) t) A
set_option maxHeartbeats 4000000 in
set_option maxRecDepth 100000 in
theorem c_Book_init (l : Launch) (D : va_G) (ks : KS) (sz : Nat) (h0 : Nat) : Met l yX0_init (Cond.code yX0_init cX0_init 2 none :: GW) r_c_Book_init (va_Pc [.ref h0] (gp D ks [(h0, .inr (0, [.null, .null, .null, .null, .null, .null, .null, .null, .null, .null, .null, .int 0, .int 0]))] [] sz)) (q_c_Book_init D h0 (va_A [(h0, .inr (0, [.null, .null, .null, .null, .null, .null, .null, .null, .null, .null, .null, .int 0, .int 0]))] sz)) 148 9822 (va_A [(h0, .inr (0, [.null, .null, .null, .null, .null, .null, .null, .null, .null, .null, .null, .int 0, .int 0]))] sz) := by
  refine g_met (q_c_Book_init D h0) (by decide) (Nat.le_of_ble_eq_true rfl) ?_
  intro p e s m below meth c A ls H locs hx hb hr hml hown hg hlocks hin hnw hgk hP hK hD hS hA hl
  have hown : s.vm.findClass RX0 = some m.cls := hown
  have hin : meth.name = "<init>" := hin
  have hl : lv_has ls 2 [(0, .ref h0)] := hl
  refine lv_aload_n hx hb dX0_init_0 rfl (lv_at hl 0 rfl) ?_
  refine W.objInit hx hb hown (hg _ w472) (hg _ w188) (hg _ wobj) rfl (by rw [hml]; exact hl.1) rfl dX0_init_1 (Nat.le_of_ble_eq_true rfl) (Nat.le_of_ble_eq_true rfl) ?_
  refine W.eq (g2 := F0 m 4 ls []) rfl ?_
  refine lv_aload_n hx hb dX0_init_4 rfl (lv_at hl 0 rfl) ?_
  refine va_new (ci := 6) (fs := [.null, .int 0]) (C := RX6) (T := TX6) (N := 2) hx hb hg inX6 tyX6 tyX6_ok hown (hg _ w473) (hg _ w474) (hg _ w168) hK hP hD hS hA rfl nfX6 (Nat.le_of_ble_eq_true rfl) (Nat.le_of_ble_eq_true rfl) dX0_init_5 (fun q1 H hP hD hS => ?_)
  refine va_cv hP hD (ws' := [(h0, .inr (0, [.null, .null, .null, .null, .null, .null, .null, .null, .null, .null, .null, .int 0, .int 0])), (q1, .inr (6, [.null, .int 0]))]) rfl (fun hP hD => ?_)
  refine lv_dup hx hb dX0_init_8 rfl ?_
  refine lv_bipush (v := 24) hx hb dX0_init_9 (by decide) ?_
  refine g_void (wr := [(h0, .inr (0, [.null, .null, .null, .null, .null, .null, .null, .null, .null, .null, .null, .int 0, .int 0]))]) (tr := []) (g_runI (As := [.int 24]) (rest := [.ref q1, .ref h0]) (wc := [(q1, .inr (6, [.null, .int 0]))]) (tc := []) hx hb hml hown hg gw_self hP hD hK hS hA hnw hgk [1] [] (by decide) rfl rfl (c_Names_init24 l D ks H.size q1) w475 w476 w168 w477 rfl hdS_yX6_init ⟨Nat.le_of_ble_eq_true rfl, Nat.le_of_ble_eq_true rfl⟩ rfl hl.1 rfl (Nat.le_of_ble_eq_true rfl) dX0_init_11 ⟨Nat.le_of_ble_eq_true rfl, Nat.le_of_ble_eq_true rfl⟩) hP hD hK hS hA [1] [0] [] rfl rfl (by decide) (by decide) rfl (fun u5 H locs hw4 hP hD hK hS => ?_)
  obtain ⟨a_2, k_3⟩ := u5
  refine va_cv hP hD (ws' := [(h0, .inr (0, [.null, .null, .null, .null, .null, .null, .null, .null, .null, .null, .null, .int 0, .int 0])), (q1, .inr (6, [.ref a_2, .int 0])), (a_2, .inl (k_3, 24, .inr (.inl (fun _ => 0))))]) rfl (fun hP hD => ?_)
  have hK : va_K D vwCl [(k_3, .long)] s := hK
  refine va_putF (D := D) (ci := 0) (v := .ref q1) (ty := tyX0 0) (C := RX0) (T := TX0) (N := 13) hx hb hg inX0 tyX0 tyX0_ok nmX0 hown hK hP hD hS 0 rfl rfl 0 (by decide) (hg _ w593) (fun _ h9 => h9) rfl hin rfl (tyX0_ok 0 (by decide)) rfl rfl (Nat.le_of_ble_eq_true rfl) dX0_init_14 (fun H locs hP hD hS => ?_)
  refine va_cv hP hD (ws' := [(h0, .inr (0, [.ref q1, .null, .null, .null, .null, .null, .null, .null, .null, .null, .null, .int 0, .int 0])), (q1, .inr (6, [.ref a_2, .int 0])), (a_2, .inl (k_3, 24, .inr (.inl (fun _ => 0))))]) rfl (fun hP hD => ?_)
  refine lv_aload_n hx hb dX0_init_17 rfl (lv_at hl 0 rfl) ?_
  refine va_new (ci := 6) (fs := [.null, .int 0]) (C := RX6) (T := TX6) (N := 2) hx hb hg inX6 tyX6 tyX6_ok hown (hg _ w473) (hg _ w474) (hg _ w168) hK hP hD hS hA rfl nfX6 (Nat.le_of_ble_eq_true rfl) (Nat.le_of_ble_eq_true rfl) dX0_init_18 (fun q6 H hP hD hS => ?_)
  refine va_cv hP hD (ws' := [(h0, .inr (0, [.ref q1, .null, .null, .null, .null, .null, .null, .null, .null, .null, .null, .int 0, .int 0])), (q1, .inr (6, [.ref a_2, .int 0])), (a_2, .inl (k_3, 24, .inr (.inl (fun _ => 0)))), (q6, .inr (6, [.null, .int 0]))]) rfl (fun hP hD => ?_)
  refine lv_dup hx hb dX0_init_21 rfl ?_
  refine lv_bipush (v := 12) hx hb dX0_init_22 (by decide) ?_
  refine g_void (wr := [(h0, .inr (0, [.ref q1, .null, .null, .null, .null, .null, .null, .null, .null, .null, .null, .int 0, .int 0])), (q1, .inr (6, [.ref a_2, .int 0])), (a_2, .inl (k_3, 24, .inr (.inl (fun _ => 0))))]) (tr := [(k_3, .long)]) (g_runI (As := [.int 12]) (rest := [.ref q6, .ref h0]) (wc := [(q6, .inr (6, [.null, .int 0]))]) (tc := []) hx hb hml hown hg gw_self hP hD hK hS hA hnw hgk [3] [] (by decide) rfl rfl (c_Names_init12 l D ks H.size q6) w475 w476 w168 w477 rfl hdS_yX6_init ⟨Nat.le_of_ble_eq_true rfl, Nat.le_of_ble_eq_true rfl⟩ rfl hl.1 rfl (Nat.le_of_ble_eq_true rfl) dX0_init_24 ⟨Nat.le_of_ble_eq_true rfl, Nat.le_of_ble_eq_true rfl⟩) hP hD hK hS hA [3] [0, 1, 2] [0] rfl rfl (by decide) (by decide) rfl (fun u10 H locs hw9 hP hD hK hS => ?_)
  obtain ⟨a_7, k_8⟩ := u10
  refine va_cv hP hD (ws' := [(h0, .inr (0, [.ref q1, .null, .null, .null, .null, .null, .null, .null, .null, .null, .null, .int 0, .int 0])), (q1, .inr (6, [.ref a_2, .int 0])), (a_2, .inl (k_3, 24, .inr (.inl (fun _ => 0)))), (q6, .inr (6, [.ref a_7, .int 0])), (a_7, .inl (k_8, 12, .inr (.inl (fun _ => 0))))]) rfl (fun hP hD => ?_)
  have hK : va_K D vwCl [(k_3, .long), (k_8, .long)] s := hK
  refine va_putF (D := D) (ci := 0) (v := .ref q6) (ty := tyX0 1) (C := RX0) (T := TX0) (N := 13) hx hb hg inX0 tyX0 tyX0_ok nmX0 hown hK hP hD hS 0 rfl rfl 1 (by decide) (hg _ w596) (fun _ h9 => h9) rfl hin rfl (tyX0_ok 1 (by decide)) rfl rfl (Nat.le_of_ble_eq_true rfl) dX0_init_27 (fun H locs hP hD hS => ?_)
  refine va_cv hP hD (ws' := [(h0, .inr (0, [.ref q1, .ref q6, .null, .null, .null, .null, .null, .null, .null, .null, .null, .int 0, .int 0])), (q1, .inr (6, [.ref a_2, .int 0])), (a_2, .inl (k_3, 24, .inr (.inl (fun _ => 0)))), (q6, .inr (6, [.ref a_7, .int 0])), (a_7, .inl (k_8, 12, .inr (.inl (fun _ => 0))))]) rfl (fun hP hD => ?_)
  refine lv_aload_n hx hb dX0_init_30 rfl (lv_at hl 0 rfl) ?_
  refine va_new (ci := 6) (fs := [.null, .int 0]) (C := RX6) (T := TX6) (N := 2) hx hb hg inX6 tyX6 tyX6_ok hown (hg _ w473) (hg _ w474) (hg _ w168) hK hP hD hS hA rfl nfX6 (Nat.le_of_ble_eq_true rfl) (Nat.le_of_ble_eq_true rfl) dX0_init_31 (fun q11 H hP hD hS => ?_)
  refine va_cv hP hD (ws' := [(h0, .inr (0, [.ref q1, .ref q6, .null, .null, .null, .null, .null, .null, .null, .null, .null, .int 0, .int 0])), (q1, .inr (6, [.ref a_2, .int 0])), (a_2, .inl (k_3, 24, .inr (.inl (fun _ => 0)))), (q6, .inr (6, [.ref a_7, .int 0])), (a_7, .inl (k_8, 12, .inr (.inl (fun _ => 0)))), (q11, .inr (6, [.null, .int 0]))]) rfl (fun hP hD => ?_)
  refine lv_dup hx hb dX0_init_34 rfl ?_
  refine lv_bipush (v := 24) hx hb dX0_init_35 (by decide) ?_
  refine g_void (wr := [(h0, .inr (0, [.ref q1, .ref q6, .null, .null, .null, .null, .null, .null, .null, .null, .null, .int 0, .int 0])), (q1, .inr (6, [.ref a_2, .int 0])), (a_2, .inl (k_3, 24, .inr (.inl (fun _ => 0)))), (q6, .inr (6, [.ref a_7, .int 0])), (a_7, .inl (k_8, 12, .inr (.inl (fun _ => 0))))]) (tr := [(k_3, .long), (k_8, .long)]) (g_runI (As := [.int 24]) (rest := [.ref q11, .ref h0]) (wc := [(q11, .inr (6, [.null, .int 0]))]) (tc := []) hx hb hml hown hg gw_self hP hD hK hS hA hnw hgk [5] [] (by decide) rfl rfl (c_Names_init24 l D ks H.size q11) w475 w476 w168 w477 rfl hdS_yX6_init ⟨Nat.le_of_ble_eq_true rfl, Nat.le_of_ble_eq_true rfl⟩ rfl hl.1 rfl (Nat.le_of_ble_eq_true rfl) dX0_init_37 ⟨Nat.le_of_ble_eq_true rfl, Nat.le_of_ble_eq_true rfl⟩) hP hD hK hS hA [5] [0, 1, 2, 3, 4] [0, 1] rfl rfl (by decide) (by decide) rfl (fun u15 H locs hw14 hP hD hK hS => ?_)
  obtain ⟨a_12, k_13⟩ := u15
  refine va_cv hP hD (ws' := [(h0, .inr (0, [.ref q1, .ref q6, .null, .null, .null, .null, .null, .null, .null, .null, .null, .int 0, .int 0])), (q1, .inr (6, [.ref a_2, .int 0])), (a_2, .inl (k_3, 24, .inr (.inl (fun _ => 0)))), (q6, .inr (6, [.ref a_7, .int 0])), (a_7, .inl (k_8, 12, .inr (.inl (fun _ => 0)))), (q11, .inr (6, [.ref a_12, .int 0])), (a_12, .inl (k_13, 24, .inr (.inl (fun _ => 0))))]) rfl (fun hP hD => ?_)
  have hK : va_K D vwCl [(k_3, .long), (k_8, .long), (k_13, .long)] s := hK
  refine va_putF (D := D) (ci := 0) (v := .ref q11) (ty := tyX0 2) (C := RX0) (T := TX0) (N := 13) hx hb hg inX0 tyX0 tyX0_ok nmX0 hown hK hP hD hS 0 rfl rfl 2 (by decide) (hg _ w599) (fun _ h9 => h9) rfl hin rfl (tyX0_ok 2 (by decide)) rfl rfl (Nat.le_of_ble_eq_true rfl) dX0_init_40 (fun H locs hP hD hS => ?_)
  refine va_cv hP hD (ws' := [(h0, .inr (0, [.ref q1, .ref q6, .ref q11, .null, .null, .null, .null, .null, .null, .null, .null, .int 0, .int 0])), (q1, .inr (6, [.ref a_2, .int 0])), (a_2, .inl (k_3, 24, .inr (.inl (fun _ => 0)))), (q6, .inr (6, [.ref a_7, .int 0])), (a_7, .inl (k_8, 12, .inr (.inl (fun _ => 0)))), (q11, .inr (6, [.ref a_12, .int 0])), (a_12, .inl (k_13, 24, .inr (.inl (fun _ => 0))))]) rfl (fun hP hD => ?_)
  refine lv_aload_n hx hb dX0_init_43 rfl (lv_at hl 0 rfl) ?_
  refine va_new (ci := 6) (fs := [.null, .int 0]) (C := RX6) (T := TX6) (N := 2) hx hb hg inX6 tyX6 tyX6_ok hown (hg _ w473) (hg _ w474) (hg _ w168) hK hP hD hS hA rfl nfX6 (Nat.le_of_ble_eq_true rfl) (Nat.le_of_ble_eq_true rfl) dX0_init_44 (fun q16 H hP hD hS => ?_)
  refine va_cv hP hD (ws' := [(h0, .inr (0, [.ref q1, .ref q6, .ref q11, .null, .null, .null, .null, .null, .null, .null, .null, .int 0, .int 0])), (q1, .inr (6, [.ref a_2, .int 0])), (a_2, .inl (k_3, 24, .inr (.inl (fun _ => 0)))), (q6, .inr (6, [.ref a_7, .int 0])), (a_7, .inl (k_8, 12, .inr (.inl (fun _ => 0)))), (q11, .inr (6, [.ref a_12, .int 0])), (a_12, .inl (k_13, 24, .inr (.inl (fun _ => 0)))), (q16, .inr (6, [.null, .int 0]))]) rfl (fun hP hD => ?_)
  refine lv_dup hx hb dX0_init_47 rfl ?_
  refine lv_bipush (v := 20) hx hb dX0_init_48 (by decide) ?_
  refine g_void (wr := [(h0, .inr (0, [.ref q1, .ref q6, .ref q11, .null, .null, .null, .null, .null, .null, .null, .null, .int 0, .int 0])), (q1, .inr (6, [.ref a_2, .int 0])), (a_2, .inl (k_3, 24, .inr (.inl (fun _ => 0)))), (q6, .inr (6, [.ref a_7, .int 0])), (a_7, .inl (k_8, 12, .inr (.inl (fun _ => 0)))), (q11, .inr (6, [.ref a_12, .int 0])), (a_12, .inl (k_13, 24, .inr (.inl (fun _ => 0))))]) (tr := [(k_3, .long), (k_8, .long), (k_13, .long)]) (g_runI (As := [.int 20]) (rest := [.ref q16, .ref h0]) (wc := [(q16, .inr (6, [.null, .int 0]))]) (tc := []) hx hb hml hown hg gw_self hP hD hK hS hA hnw hgk [7] [] (by decide) rfl rfl (c_Names_init20 l D ks H.size q16) w475 w476 w168 w477 rfl hdS_yX6_init ⟨Nat.le_of_ble_eq_true rfl, Nat.le_of_ble_eq_true rfl⟩ rfl hl.1 rfl (Nat.le_of_ble_eq_true rfl) dX0_init_50 ⟨Nat.le_of_ble_eq_true rfl, Nat.le_of_ble_eq_true rfl⟩) hP hD hK hS hA [7] [0, 1, 2, 3, 4, 5, 6] [0, 1, 2] rfl rfl (by decide) (by decide) rfl (fun u20 H locs hw19 hP hD hK hS => ?_)
  obtain ⟨a_17, k_18⟩ := u20
  refine va_cv hP hD (ws' := [(h0, .inr (0, [.ref q1, .ref q6, .ref q11, .null, .null, .null, .null, .null, .null, .null, .null, .int 0, .int 0])), (q1, .inr (6, [.ref a_2, .int 0])), (a_2, .inl (k_3, 24, .inr (.inl (fun _ => 0)))), (q6, .inr (6, [.ref a_7, .int 0])), (a_7, .inl (k_8, 12, .inr (.inl (fun _ => 0)))), (q11, .inr (6, [.ref a_12, .int 0])), (a_12, .inl (k_13, 24, .inr (.inl (fun _ => 0)))), (q16, .inr (6, [.ref a_17, .int 0])), (a_17, .inl (k_18, 20, .inr (.inl (fun _ => 0))))]) rfl (fun hP hD => ?_)
  have hK : va_K D vwCl [(k_3, .long), (k_8, .long), (k_13, .long), (k_18, .long)] s := hK
  refine va_putF (D := D) (ci := 0) (v := .ref q16) (ty := tyX0 3) (C := RX0) (T := TX0) (N := 13) hx hb hg inX0 tyX0 tyX0_ok nmX0 hown hK hP hD hS 0 rfl rfl 3 (by decide) (hg _ w603) (fun _ h9 => h9) rfl hin rfl (tyX0_ok 3 (by decide)) rfl rfl (Nat.le_of_ble_eq_true rfl) dX0_init_53 (fun H locs hP hD hS => ?_)
  refine va_cv hP hD (ws' := [(h0, .inr (0, [.ref q1, .ref q6, .ref q11, .ref q16, .null, .null, .null, .null, .null, .null, .null, .int 0, .int 0])), (q1, .inr (6, [.ref a_2, .int 0])), (a_2, .inl (k_3, 24, .inr (.inl (fun _ => 0)))), (q6, .inr (6, [.ref a_7, .int 0])), (a_7, .inl (k_8, 12, .inr (.inl (fun _ => 0)))), (q11, .inr (6, [.ref a_12, .int 0])), (a_12, .inl (k_13, 24, .inr (.inl (fun _ => 0)))), (q16, .inr (6, [.ref a_17, .int 0])), (a_17, .inl (k_18, 20, .inr (.inl (fun _ => 0))))]) rfl (fun hP hD => ?_)
  refine lv_aload_n hx hb dX0_init_56 rfl (lv_at hl 0 rfl) ?_
  refine va_new (ci := 6) (fs := [.null, .int 0]) (C := RX6) (T := TX6) (N := 2) hx hb hg inX6 tyX6 tyX6_ok hown (hg _ w473) (hg _ w474) (hg _ w168) hK hP hD hS hA rfl nfX6 (Nat.le_of_ble_eq_true rfl) (Nat.le_of_ble_eq_true rfl) dX0_init_57 (fun q21 H hP hD hS => ?_)
  refine va_cv hP hD (ws' := [(h0, .inr (0, [.ref q1, .ref q6, .ref q11, .ref q16, .null, .null, .null, .null, .null, .null, .null, .int 0, .int 0])), (q1, .inr (6, [.ref a_2, .int 0])), (a_2, .inl (k_3, 24, .inr (.inl (fun _ => 0)))), (q6, .inr (6, [.ref a_7, .int 0])), (a_7, .inl (k_8, 12, .inr (.inl (fun _ => 0)))), (q11, .inr (6, [.ref a_12, .int 0])), (a_12, .inl (k_13, 24, .inr (.inl (fun _ => 0)))), (q16, .inr (6, [.ref a_17, .int 0])), (a_17, .inl (k_18, 20, .inr (.inl (fun _ => 0)))), (q21, .inr (6, [.null, .int 0]))]) rfl (fun hP hD => ?_)
  refine lv_dup hx hb dX0_init_60 rfl ?_
  refine lv_bipush (v := 20) hx hb dX0_init_61 (by decide) ?_
  refine g_void (wr := [(h0, .inr (0, [.ref q1, .ref q6, .ref q11, .ref q16, .null, .null, .null, .null, .null, .null, .null, .int 0, .int 0])), (q1, .inr (6, [.ref a_2, .int 0])), (a_2, .inl (k_3, 24, .inr (.inl (fun _ => 0)))), (q6, .inr (6, [.ref a_7, .int 0])), (a_7, .inl (k_8, 12, .inr (.inl (fun _ => 0)))), (q11, .inr (6, [.ref a_12, .int 0])), (a_12, .inl (k_13, 24, .inr (.inl (fun _ => 0)))), (q16, .inr (6, [.ref a_17, .int 0])), (a_17, .inl (k_18, 20, .inr (.inl (fun _ => 0))))]) (tr := [(k_3, .long), (k_8, .long), (k_13, .long), (k_18, .long)]) (g_runI (As := [.int 20]) (rest := [.ref q21, .ref h0]) (wc := [(q21, .inr (6, [.null, .int 0]))]) (tc := []) hx hb hml hown hg gw_self hP hD hK hS hA hnw hgk [9] [] (by decide) rfl rfl (c_Names_init20 l D ks H.size q21) w475 w476 w168 w477 rfl hdS_yX6_init ⟨Nat.le_of_ble_eq_true rfl, Nat.le_of_ble_eq_true rfl⟩ rfl hl.1 rfl (Nat.le_of_ble_eq_true rfl) dX0_init_63 ⟨Nat.le_of_ble_eq_true rfl, Nat.le_of_ble_eq_true rfl⟩) hP hD hK hS hA [9] [0, 1, 2, 3, 4, 5, 6, 7, 8] [0, 1, 2, 3] rfl rfl (by decide) (by decide) rfl (fun u25 H locs hw24 hP hD hK hS => ?_)
  obtain ⟨a_22, k_23⟩ := u25
  refine va_cv hP hD (ws' := [(h0, .inr (0, [.ref q1, .ref q6, .ref q11, .ref q16, .null, .null, .null, .null, .null, .null, .null, .int 0, .int 0])), (q1, .inr (6, [.ref a_2, .int 0])), (a_2, .inl (k_3, 24, .inr (.inl (fun _ => 0)))), (q6, .inr (6, [.ref a_7, .int 0])), (a_7, .inl (k_8, 12, .inr (.inl (fun _ => 0)))), (q11, .inr (6, [.ref a_12, .int 0])), (a_12, .inl (k_13, 24, .inr (.inl (fun _ => 0)))), (q16, .inr (6, [.ref a_17, .int 0])), (a_17, .inl (k_18, 20, .inr (.inl (fun _ => 0)))), (q21, .inr (6, [.ref a_22, .int 0])), (a_22, .inl (k_23, 20, .inr (.inl (fun _ => 0))))]) rfl (fun hP hD => ?_)
  have hK : va_K D vwCl [(k_3, .long), (k_8, .long), (k_13, .long), (k_18, .long), (k_23, .long)] s := hK
  refine va_putF (D := D) (ci := 0) (v := .ref q21) (ty := tyX0 4) (C := RX0) (T := TX0) (N := 13) hx hb hg inX0 tyX0 tyX0_ok nmX0 hown hK hP hD hS 0 rfl rfl 4 (by decide) (hg _ w606) (fun _ h9 => h9) rfl hin rfl (tyX0_ok 4 (by decide)) rfl rfl (Nat.le_of_ble_eq_true rfl) dX0_init_66 (fun H locs hP hD hS => ?_)
  refine va_cv hP hD (ws' := [(h0, .inr (0, [.ref q1, .ref q6, .ref q11, .ref q16, .ref q21, .null, .null, .null, .null, .null, .null, .int 0, .int 0])), (q1, .inr (6, [.ref a_2, .int 0])), (a_2, .inl (k_3, 24, .inr (.inl (fun _ => 0)))), (q6, .inr (6, [.ref a_7, .int 0])), (a_7, .inl (k_8, 12, .inr (.inl (fun _ => 0)))), (q11, .inr (6, [.ref a_12, .int 0])), (a_12, .inl (k_13, 24, .inr (.inl (fun _ => 0)))), (q16, .inr (6, [.ref a_17, .int 0])), (a_17, .inl (k_18, 20, .inr (.inl (fun _ => 0)))), (q21, .inr (6, [.ref a_22, .int 0])), (a_22, .inl (k_23, 20, .inr (.inl (fun _ => 0))))]) rfl (fun hP hD => ?_)
  refine lv_aload_n hx hb dX0_init_69 rfl (lv_at hl 0 rfl) ?_
  refine lv_bipush (v := 24) hx hb dX0_init_70 (by decide) ?_
  refine va_newa (D := D) (atype := .int) (ty := .int) (n := 24) (N' := 24) (a0 := (24, .inl (fun _ => 0))) hx hb (hg _ w297) rfl hK hP hD hS hA (fun _ => rfl) (by decide) (by decide) (by decide) (Nat.le_of_ble_eq_true rfl) (Nat.le_of_ble_eq_true rfl) dX0_init_72 (fun q26 k27 H hK hP hD hS => ?_)
  refine va_cv hP hD (ws' := [(h0, .inr (0, [.ref q1, .ref q6, .ref q11, .ref q16, .ref q21, .null, .null, .null, .null, .null, .null, .int 0, .int 0])), (q1, .inr (6, [.ref a_2, .int 0])), (a_2, .inl (k_3, 24, .inr (.inl (fun _ => 0)))), (q6, .inr (6, [.ref a_7, .int 0])), (a_7, .inl (k_8, 12, .inr (.inl (fun _ => 0)))), (q11, .inr (6, [.ref a_12, .int 0])), (a_12, .inl (k_13, 24, .inr (.inl (fun _ => 0)))), (q16, .inr (6, [.ref a_17, .int 0])), (a_17, .inl (k_18, 20, .inr (.inl (fun _ => 0)))), (q21, .inr (6, [.ref a_22, .int 0])), (a_22, .inl (k_23, 20, .inr (.inl (fun _ => 0)))), (q26, .inl (k27, 24, .inl (fun _ => 0)))]) rfl (fun hP hD => ?_)
  have hK : va_K D vwCl [(k_3, .long), (k_8, .long), (k_13, .long), (k_18, .long), (k_23, .long), (k27, .int)] s := hK
  refine va_putF (D := D) (ci := 0) (v := .ref q26) (ty := tyX0 5) (C := RX0) (T := TX0) (N := 13) hx hb hg inX0 tyX0 tyX0_ok nmX0 hown hK hP hD hS 0 rfl rfl 5 (by decide) (hg _ w608) (fun _ h9 => h9) rfl hin rfl (tyX0_ok 5 (by decide)) rfl rfl (Nat.le_of_ble_eq_true rfl) dX0_init_74 (fun H locs hP hD hS => ?_)
  refine va_cv hP hD (ws' := [(h0, .inr (0, [.ref q1, .ref q6, .ref q11, .ref q16, .ref q21, .ref q26, .null, .null, .null, .null, .null, .int 0, .int 0])), (q1, .inr (6, [.ref a_2, .int 0])), (a_2, .inl (k_3, 24, .inr (.inl (fun _ => 0)))), (q6, .inr (6, [.ref a_7, .int 0])), (a_7, .inl (k_8, 12, .inr (.inl (fun _ => 0)))), (q11, .inr (6, [.ref a_12, .int 0])), (a_12, .inl (k_13, 24, .inr (.inl (fun _ => 0)))), (q16, .inr (6, [.ref a_17, .int 0])), (a_17, .inl (k_18, 20, .inr (.inl (fun _ => 0)))), (q21, .inr (6, [.ref a_22, .int 0])), (a_22, .inl (k_23, 20, .inr (.inl (fun _ => 0)))), (q26, .inl (k27, 24, .inl (fun _ => 0)))]) rfl (fun hP hD => ?_)
  refine lv_aload_n hx hb dX0_init_77 rfl (lv_at hl 0 rfl) ?_
  refine lv_bipush (v := 12) hx hb dX0_init_78 (by decide) ?_
  refine va_newa (D := D) (atype := .int) (ty := .int) (n := 12) (N' := 12) (a0 := (12, .inl (fun _ => 0))) hx hb (hg _ w297) rfl hK hP hD hS hA (fun _ => rfl) (by decide) (by decide) (by decide) (Nat.le_of_ble_eq_true rfl) (Nat.le_of_ble_eq_true rfl) dX0_init_80 (fun q28 k29 H hK hP hD hS => ?_)
  refine va_cv hP hD (ws' := [(h0, .inr (0, [.ref q1, .ref q6, .ref q11, .ref q16, .ref q21, .ref q26, .null, .null, .null, .null, .null, .int 0, .int 0])), (q1, .inr (6, [.ref a_2, .int 0])), (a_2, .inl (k_3, 24, .inr (.inl (fun _ => 0)))), (q6, .inr (6, [.ref a_7, .int 0])), (a_7, .inl (k_8, 12, .inr (.inl (fun _ => 0)))), (q11, .inr (6, [.ref a_12, .int 0])), (a_12, .inl (k_13, 24, .inr (.inl (fun _ => 0)))), (q16, .inr (6, [.ref a_17, .int 0])), (a_17, .inl (k_18, 20, .inr (.inl (fun _ => 0)))), (q21, .inr (6, [.ref a_22, .int 0])), (a_22, .inl (k_23, 20, .inr (.inl (fun _ => 0)))), (q26, .inl (k27, 24, .inl (fun _ => 0))), (q28, .inl (k29, 12, .inl (fun _ => 0)))]) rfl (fun hP hD => ?_)
  have hK : va_K D vwCl [(k_3, .long), (k_8, .long), (k_13, .long), (k_18, .long), (k_23, .long), (k27, .int), (k29, .int)] s := hK
  refine va_putF (D := D) (ci := 0) (v := .ref q28) (ty := tyX0 6) (C := RX0) (T := TX0) (N := 13) hx hb hg inX0 tyX0 tyX0_ok nmX0 hown hK hP hD hS 0 rfl rfl 6 (by decide) (hg _ w610) (fun _ h9 => h9) rfl hin rfl (tyX0_ok 6 (by decide)) rfl rfl (Nat.le_of_ble_eq_true rfl) dX0_init_82 (fun H locs hP hD hS => ?_)
  refine va_cv hP hD (ws' := [(h0, .inr (0, [.ref q1, .ref q6, .ref q11, .ref q16, .ref q21, .ref q26, .ref q28, .null, .null, .null, .null, .int 0, .int 0])), (q1, .inr (6, [.ref a_2, .int 0])), (a_2, .inl (k_3, 24, .inr (.inl (fun _ => 0)))), (q6, .inr (6, [.ref a_7, .int 0])), (a_7, .inl (k_8, 12, .inr (.inl (fun _ => 0)))), (q11, .inr (6, [.ref a_12, .int 0])), (a_12, .inl (k_13, 24, .inr (.inl (fun _ => 0)))), (q16, .inr (6, [.ref a_17, .int 0])), (a_17, .inl (k_18, 20, .inr (.inl (fun _ => 0)))), (q21, .inr (6, [.ref a_22, .int 0])), (a_22, .inl (k_23, 20, .inr (.inl (fun _ => 0)))), (q26, .inl (k27, 24, .inl (fun _ => 0))), (q28, .inl (k29, 12, .inl (fun _ => 0)))]) rfl (fun hP hD => ?_)
  refine lv_aload_n hx hb dX0_init_85 rfl (lv_at hl 0 rfl) ?_
  refine lv_bipush (v := 24) hx hb dX0_init_86 (by decide) ?_
  refine va_newq (D := D) (C := RX3) (n := 24) (N' := 24) hx hb hown (hg _ w490) hgk.2.2.1 hK hP hD hS hA (by decide) (by decide) (by decide) (Nat.le_of_ble_eq_true rfl) (Nat.le_of_ble_eq_true rfl) dX0_init_88 (fun q30 k31 H hK hP hD hS => ?_)
  refine va_cv hP hD (ws' := [(h0, .inr (0, [.ref q1, .ref q6, .ref q11, .ref q16, .ref q21, .ref q26, .ref q28, .null, .null, .null, .null, .int 0, .int 0])), (q1, .inr (6, [.ref a_2, .int 0])), (a_2, .inl (k_3, 24, .inr (.inl (fun _ => 0)))), (q6, .inr (6, [.ref a_7, .int 0])), (a_7, .inl (k_8, 12, .inr (.inl (fun _ => 0)))), (q11, .inr (6, [.ref a_12, .int 0])), (a_12, .inl (k_13, 24, .inr (.inl (fun _ => 0)))), (q16, .inr (6, [.ref a_17, .int 0])), (a_17, .inl (k_18, 20, .inr (.inl (fun _ => 0)))), (q21, .inr (6, [.ref a_22, .int 0])), (a_22, .inl (k_23, 20, .inr (.inl (fun _ => 0)))), (q26, .inl (k27, 24, .inl (fun _ => 0))), (q28, .inl (k29, 12, .inl (fun _ => 0))), (q30, .inl (k31, 24, .inr (.inr (.inr (.inr (fun _ => none))))))]) rfl (fun hP hD => ?_)
  have hK : va_K D vwCl [(k_3, .long), (k_8, .long), (k_13, .long), (k_18, .long), (k_23, .long), (k27, .int), (k29, .int), (k31, .object RX3)] s := hK
  refine va_putF (D := D) (ci := 0) (v := .ref q30) (ty := tyX0 7) (C := RX0) (T := TX0) (N := 13) hx hb hg inX0 tyX0 tyX0_ok nmX0 hown hK hP hD hS 0 rfl rfl 7 (by decide) (hg _ w614) (fun _ h9 => h9) rfl hin rfl (tyX0_ok 7 (by decide)) rfl rfl (Nat.le_of_ble_eq_true rfl) dX0_init_91 (fun H locs hP hD hS => ?_)
  refine va_cv hP hD (ws' := [(h0, .inr (0, [.ref q1, .ref q6, .ref q11, .ref q16, .ref q21, .ref q26, .ref q28, .ref q30, .null, .null, .null, .int 0, .int 0])), (q1, .inr (6, [.ref a_2, .int 0])), (a_2, .inl (k_3, 24, .inr (.inl (fun _ => 0)))), (q6, .inr (6, [.ref a_7, .int 0])), (a_7, .inl (k_8, 12, .inr (.inl (fun _ => 0)))), (q11, .inr (6, [.ref a_12, .int 0])), (a_12, .inl (k_13, 24, .inr (.inl (fun _ => 0)))), (q16, .inr (6, [.ref a_17, .int 0])), (a_17, .inl (k_18, 20, .inr (.inl (fun _ => 0)))), (q21, .inr (6, [.ref a_22, .int 0])), (a_22, .inl (k_23, 20, .inr (.inl (fun _ => 0)))), (q26, .inl (k27, 24, .inl (fun _ => 0))), (q28, .inl (k29, 12, .inl (fun _ => 0))), (q30, .inl (k31, 24, .inr (.inr (.inr (.inr (fun _ => none))))))]) rfl (fun hP hD => ?_)
  refine lv_aload_n hx hb dX0_init_94 rfl (lv_at hl 0 rfl) ?_
  refine lv_bipush (v := 12) hx hb dX0_init_95 (by decide) ?_
  refine va_newq (D := D) (C := RX10) (n := 12) (N' := 12) hx hb hown (hg _ w492) hgk.2.2.2.1 hK hP hD hS hA (by decide) (by decide) (by decide) (Nat.le_of_ble_eq_true rfl) (Nat.le_of_ble_eq_true rfl) dX0_init_97 (fun q32 k33 H hK hP hD hS => ?_)
  refine va_cv hP hD (ws' := [(h0, .inr (0, [.ref q1, .ref q6, .ref q11, .ref q16, .ref q21, .ref q26, .ref q28, .ref q30, .null, .null, .null, .int 0, .int 0])), (q1, .inr (6, [.ref a_2, .int 0])), (a_2, .inl (k_3, 24, .inr (.inl (fun _ => 0)))), (q6, .inr (6, [.ref a_7, .int 0])), (a_7, .inl (k_8, 12, .inr (.inl (fun _ => 0)))), (q11, .inr (6, [.ref a_12, .int 0])), (a_12, .inl (k_13, 24, .inr (.inl (fun _ => 0)))), (q16, .inr (6, [.ref a_17, .int 0])), (a_17, .inl (k_18, 20, .inr (.inl (fun _ => 0)))), (q21, .inr (6, [.ref a_22, .int 0])), (a_22, .inl (k_23, 20, .inr (.inl (fun _ => 0)))), (q26, .inl (k27, 24, .inl (fun _ => 0))), (q28, .inl (k29, 12, .inl (fun _ => 0))), (q30, .inl (k31, 24, .inr (.inr (.inr (.inr (fun _ => none)))))), (q32, .inl (k33, 12, .inr (.inr (.inr (.inr (fun _ => none))))))]) rfl (fun hP hD => ?_)
  have hK : va_K D vwCl [(k_3, .long), (k_8, .long), (k_13, .long), (k_18, .long), (k_23, .long), (k27, .int), (k29, .int), (k31, .object RX3), (k33, .object RX10)] s := hK
  refine va_putF (D := D) (ci := 0) (v := .ref q32) (ty := tyX0 8) (C := RX0) (T := TX0) (N := 13) hx hb hg inX0 tyX0 tyX0_ok nmX0 hown hK hP hD hS 0 rfl rfl 8 (by decide) (hg _ w619) (fun _ h9 => h9) rfl hin rfl (tyX0_ok 8 (by decide)) rfl rfl (Nat.le_of_ble_eq_true rfl) dX0_init_100 (fun H locs hP hD hS => ?_)
  refine va_cv hP hD (ws' := [(h0, .inr (0, [.ref q1, .ref q6, .ref q11, .ref q16, .ref q21, .ref q26, .ref q28, .ref q30, .ref q32, .null, .null, .int 0, .int 0])), (q1, .inr (6, [.ref a_2, .int 0])), (a_2, .inl (k_3, 24, .inr (.inl (fun _ => 0)))), (q6, .inr (6, [.ref a_7, .int 0])), (a_7, .inl (k_8, 12, .inr (.inl (fun _ => 0)))), (q11, .inr (6, [.ref a_12, .int 0])), (a_12, .inl (k_13, 24, .inr (.inl (fun _ => 0)))), (q16, .inr (6, [.ref a_17, .int 0])), (a_17, .inl (k_18, 20, .inr (.inl (fun _ => 0)))), (q21, .inr (6, [.ref a_22, .int 0])), (a_22, .inl (k_23, 20, .inr (.inl (fun _ => 0)))), (q26, .inl (k27, 24, .inl (fun _ => 0))), (q28, .inl (k29, 12, .inl (fun _ => 0))), (q30, .inl (k31, 24, .inr (.inr (.inr (.inr (fun _ => none)))))), (q32, .inl (k33, 12, .inr (.inr (.inr (.inr (fun _ => none))))))]) rfl (fun hP hD => ?_)
  refine lv_aload_n hx hb dX0_init_103 rfl (lv_at hl 0 rfl) ?_
  refine lv_bipush (v := 12) hx hb dX0_init_104 (by decide) ?_
  refine va_newa (D := D) (atype := .int) (ty := .int) (n := 12) (N' := 12) (a0 := (12, .inl (fun _ => 0))) hx hb (hg _ w297) rfl hK hP hD hS hA (fun _ => rfl) (by decide) (by decide) (by decide) (Nat.le_of_ble_eq_true rfl) (Nat.le_of_ble_eq_true rfl) dX0_init_106 (fun q34 k35 H hK hP hD hS => ?_)
  refine va_cv hP hD (ws' := [(h0, .inr (0, [.ref q1, .ref q6, .ref q11, .ref q16, .ref q21, .ref q26, .ref q28, .ref q30, .ref q32, .null, .null, .int 0, .int 0])), (q1, .inr (6, [.ref a_2, .int 0])), (a_2, .inl (k_3, 24, .inr (.inl (fun _ => 0)))), (q6, .inr (6, [.ref a_7, .int 0])), (a_7, .inl (k_8, 12, .inr (.inl (fun _ => 0)))), (q11, .inr (6, [.ref a_12, .int 0])), (a_12, .inl (k_13, 24, .inr (.inl (fun _ => 0)))), (q16, .inr (6, [.ref a_17, .int 0])), (a_17, .inl (k_18, 20, .inr (.inl (fun _ => 0)))), (q21, .inr (6, [.ref a_22, .int 0])), (a_22, .inl (k_23, 20, .inr (.inl (fun _ => 0)))), (q26, .inl (k27, 24, .inl (fun _ => 0))), (q28, .inl (k29, 12, .inl (fun _ => 0))), (q30, .inl (k31, 24, .inr (.inr (.inr (.inr (fun _ => none)))))), (q32, .inl (k33, 12, .inr (.inr (.inr (.inr (fun _ => none)))))), (q34, .inl (k35, 12, .inl (fun _ => 0)))]) rfl (fun hP hD => ?_)
  have hK : va_K D vwCl [(k_3, .long), (k_8, .long), (k_13, .long), (k_18, .long), (k_23, .long), (k27, .int), (k29, .int), (k31, .object RX3), (k33, .object RX10), (k35, .int)] s := hK
  refine va_putF (D := D) (ci := 0) (v := .ref q34) (ty := tyX0 9) (C := RX0) (T := TX0) (N := 13) hx hb hg inX0 tyX0 tyX0_ok nmX0 hown hK hP hD hS 0 rfl rfl 9 (by decide) (hg _ w621) (fun _ h9 => h9) rfl hin rfl (tyX0_ok 9 (by decide)) rfl rfl (Nat.le_of_ble_eq_true rfl) dX0_init_108 (fun H locs hP hD hS => ?_)
  refine va_cv hP hD (ws' := [(h0, .inr (0, [.ref q1, .ref q6, .ref q11, .ref q16, .ref q21, .ref q26, .ref q28, .ref q30, .ref q32, .ref q34, .null, .int 0, .int 0])), (q1, .inr (6, [.ref a_2, .int 0])), (a_2, .inl (k_3, 24, .inr (.inl (fun _ => 0)))), (q6, .inr (6, [.ref a_7, .int 0])), (a_7, .inl (k_8, 12, .inr (.inl (fun _ => 0)))), (q11, .inr (6, [.ref a_12, .int 0])), (a_12, .inl (k_13, 24, .inr (.inl (fun _ => 0)))), (q16, .inr (6, [.ref a_17, .int 0])), (a_17, .inl (k_18, 20, .inr (.inl (fun _ => 0)))), (q21, .inr (6, [.ref a_22, .int 0])), (a_22, .inl (k_23, 20, .inr (.inl (fun _ => 0)))), (q26, .inl (k27, 24, .inl (fun _ => 0))), (q28, .inl (k29, 12, .inl (fun _ => 0))), (q30, .inl (k31, 24, .inr (.inr (.inr (.inr (fun _ => none)))))), (q32, .inl (k33, 12, .inr (.inr (.inr (.inr (fun _ => none)))))), (q34, .inl (k35, 12, .inl (fun _ => 0)))]) rfl (fun hP hD => ?_)
  refine lv_aload_n hx hb dX0_init_111 rfl (lv_at hl 0 rfl) ?_
  refine lv_sipush (v := 8200) hx hb dX0_init_112 (by decide) ?_
  refine va_newa (D := D) (atype := .int) (ty := .int) (n := 8200) (N' := 8200) (a0 := (8200, .inl (fun _ => 0))) hx hb (hg _ w297) rfl hK hP hD hS hA (fun _ => rfl) (by decide) (by decide) (by decide) (Nat.le_of_ble_eq_true rfl) (Nat.le_of_ble_eq_true rfl) dX0_init_115 (fun q36 k37 H hK hP hD hS => ?_)
  refine va_cv hP hD (ws' := [(h0, .inr (0, [.ref q1, .ref q6, .ref q11, .ref q16, .ref q21, .ref q26, .ref q28, .ref q30, .ref q32, .ref q34, .null, .int 0, .int 0])), (q1, .inr (6, [.ref a_2, .int 0])), (a_2, .inl (k_3, 24, .inr (.inl (fun _ => 0)))), (q6, .inr (6, [.ref a_7, .int 0])), (a_7, .inl (k_8, 12, .inr (.inl (fun _ => 0)))), (q11, .inr (6, [.ref a_12, .int 0])), (a_12, .inl (k_13, 24, .inr (.inl (fun _ => 0)))), (q16, .inr (6, [.ref a_17, .int 0])), (a_17, .inl (k_18, 20, .inr (.inl (fun _ => 0)))), (q21, .inr (6, [.ref a_22, .int 0])), (a_22, .inl (k_23, 20, .inr (.inl (fun _ => 0)))), (q26, .inl (k27, 24, .inl (fun _ => 0))), (q28, .inl (k29, 12, .inl (fun _ => 0))), (q30, .inl (k31, 24, .inr (.inr (.inr (.inr (fun _ => none)))))), (q32, .inl (k33, 12, .inr (.inr (.inr (.inr (fun _ => none)))))), (q34, .inl (k35, 12, .inl (fun _ => 0))), (q36, .inl (k37, 8200, .inl (fun _ => 0)))]) rfl (fun hP hD => ?_)
  have hK : va_K D vwCl [(k_3, .long), (k_8, .long), (k_13, .long), (k_18, .long), (k_23, .long), (k27, .int), (k29, .int), (k31, .object RX3), (k33, .object RX10), (k35, .int), (k37, .int)] s := hK
  refine va_putF (D := D) (ci := 0) (v := .ref q36) (ty := tyX0 10) (C := RX0) (T := TX0) (N := 13) hx hb hg inX0 tyX0 tyX0_ok nmX0 hown hK hP hD hS 0 rfl rfl 10 (by decide) (hg _ w623) (fun _ h9 => h9) rfl hin rfl (tyX0_ok 10 (by decide)) rfl rfl (Nat.le_of_ble_eq_true rfl) dX0_init_117 (fun H locs hP hD hS => ?_)
  refine va_cv hP hD (ws' := [(h0, .inr (0, [.ref q1, .ref q6, .ref q11, .ref q16, .ref q21, .ref q26, .ref q28, .ref q30, .ref q32, .ref q34, .ref q36, .int 0, .int 0])), (q1, .inr (6, [.ref a_2, .int 0])), (a_2, .inl (k_3, 24, .inr (.inl (fun _ => 0)))), (q6, .inr (6, [.ref a_7, .int 0])), (a_7, .inl (k_8, 12, .inr (.inl (fun _ => 0)))), (q11, .inr (6, [.ref a_12, .int 0])), (a_12, .inl (k_13, 24, .inr (.inl (fun _ => 0)))), (q16, .inr (6, [.ref a_17, .int 0])), (a_17, .inl (k_18, 20, .inr (.inl (fun _ => 0)))), (q21, .inr (6, [.ref a_22, .int 0])), (a_22, .inl (k_23, 20, .inr (.inl (fun _ => 0)))), (q26, .inl (k27, 24, .inl (fun _ => 0))), (q28, .inl (k29, 12, .inl (fun _ => 0))), (q30, .inl (k31, 24, .inr (.inr (.inr (.inr (fun _ => none)))))), (q32, .inl (k33, 12, .inr (.inr (.inr (.inr (fun _ => none)))))), (q34, .inl (k35, 12, .inl (fun _ => 0))), (q36, .inl (k37, 8200, .inl (fun _ => 0)))]) rfl (fun hP hD => ?_)
  refine lv_iconst (v := 0) hx hb dX0_init_120 (by decide) ?_
  refine lv_istore_n (lv' := [(1, .int 0), (0, .ref h0)]) hx hb dX0_init_121 rfl hl (by decide) rfl (fun ls hl => ?_)
  have lp2 : ∀ (n i : Nat) (d : Nat → CU) (w : Nat → Nat) (H : Heap) (locs : List Loc) (ls : Array Slot), i ≤ 12 → 12 < i + n → va_P D vwCl ([(h0, .inr (0, [.ref q1, .ref q6, .ref q11, .ref q16, .ref q21, .ref q26, .ref q28, .ref q30, .ref q32, .ref q34, .ref q36, .int 0, .int 0])), (q1, .inr (6, [.ref a_2, .int 0])), (a_2, .inl (k_3, 24, .inr (.inl (fun _ => 0)))), (q6, .inr (6, [.ref a_7, .int 0])), (a_7, .inl (k_8, 12, .inr (.inl (fun _ => 0)))), (q11, .inr (6, [.ref a_12, .int 0])), (a_12, .inl (k_13, 24, .inr (.inl (fun _ => 0)))), (q16, .inr (6, [.ref a_17, .int 0])), (a_17, .inl (k_18, 20, .inr (.inl (fun _ => 0)))), (q21, .inr (6, [.ref a_22, .int 0])), (a_22, .inl (k_23, 20, .inr (.inl (fun _ => 0)))), (q26, .inl (k27, 24, .inl (fun _ => 0))), (q28, .inl (k29, 12, .inl (fun _ => 0))), (q30, .inl (k31, 24, .inr (.inr (.inr (.inr (fun q => if q < 24 then some (d q).1 else none)))))), (q32, .inl (k33, 12, .inr (.inr (.inr (.inr (fun q => if q < i then some (w q) else none)))))), (q34, .inl (k35, 12, .inl (fun _ => 0))), (q36, .inl (k37, 8200, .inl (fun _ => 0)))] ++ (RC wblk w i ++ RC cblk d 24)) H → va_D A ([(h0, .inr (0, [.ref q1, .ref q6, .ref q11, .ref q16, .ref q21, .ref q26, .ref q28, .ref q30, .ref q32, .ref q34, .ref q36, .int 0, .int 0])), (q1, .inr (6, [.ref a_2, .int 0])), (a_2, .inl (k_3, 24, .inr (.inl (fun _ => 0)))), (q6, .inr (6, [.ref a_7, .int 0])), (a_7, .inl (k_8, 12, .inr (.inl (fun _ => 0)))), (q11, .inr (6, [.ref a_12, .int 0])), (a_12, .inl (k_13, 24, .inr (.inl (fun _ => 0)))), (q16, .inr (6, [.ref a_17, .int 0])), (a_17, .inl (k_18, 20, .inr (.inl (fun _ => 0)))), (q21, .inr (6, [.ref a_22, .int 0])), (a_22, .inl (k_23, 20, .inr (.inl (fun _ => 0)))), (q26, .inl (k27, 24, .inl (fun _ => 0))), (q28, .inl (k29, 12, .inl (fun _ => 0))), (q30, .inl (k31, 24, .inr (.inr (.inr (.inr (fun q => if q < 24 then some (d q).1 else none)))))), (q32, .inl (k33, 12, .inr (.inr (.inr (.inr (fun q => if q < i then some (w q) else none)))))), (q34, .inl (k35, 12, .inl (fun _ => 0))), (q36, .inl (k37, 8200, .inl (fun _ => 0)))] ++ (RC wblk w i ++ RC cblk d 24)) → va_K D vwCl ([(k_3, .long), (k_8, .long), (k_13, .long), (k_18, .long), (k_23, .long), (k27, .int), (k29, .int), (k31, .object RX3), (k33, .object RX10), (k35, .int), (k37, .int)] ++ RTy cty d 24) s → va_S A s.heap H locs → lv_has ls 2 [(1, .int (nI i)), (0, .ref h0)] → W p l e r_c_Book_init s m ([.ref h0] : List Value).toArray below meth c H locs (136 + 1 * i) (9762 + 5 * i) (MQ below (q_c_Book_init D h0 A) ([.ref h0] : List Value).toArray s 148 9822 A) (F0 m 149 ls []) := by
    intro n
    induction n with
    | zero =>
      intro i d w H locs ls hi hn hP hD hK hS hl
      exact absurd hn (by omega)
    | succ n ih =>
      intro i d w H locs ls hi hn hP hD hK hS hl
      refine lv_iload_n hx hb dX0_init_149 rfl (lv_at hl 0 rfl) ?_
      refine lv_bipush (v := 12) hx hb dX0_init_150 (by decide) ?_
      refine lv_icmp_ge (tgt := 174) hx hb dX0_init_152 (by decide) (fun c2 => ?_) (fun c2 => ?_)
      · have gc2 : 12 ≤ i := g_ge_ge (L := 12) (by omega) (by omega) c2
        have e9 : i = 12 := by omega
        subst e9
        have hP9 : va_P D vwCl (bkw h0 ((fun k => List.getD [0, q1, q6, q11, q16, q21, a_2, a_7, a_12, a_17, a_22, q26, q28, q30, q32, q34, q36] k 0, fun k => List.getD [k_3, k_3, k_3, k_3, k_3, k_3, k_3, k_8, k_13, k_18, k_23, k27, k29, k31, k33, k35, k37] k k_3, d, w) : BU)) H := va_Pap ((va_Pl hP).sub (ws' := be17 h0 ((fun k => List.getD [0, q1, q6, q11, q16, q21, a_2, a_7, a_12, a_17, a_22, q26, q28, q30, q32, q34, q36] k 0, fun k => List.getD [k_3, k_3, k_3, k_3, k_3, k_3, k_3, k_8, k_13, k_18, k_23, k27, k29, k31, k33, k35, k37] k k_3, d, w) : BU)) [0, 1, 3, 5, 7, 9, 2, 4, 6, 8, 10, 11, 12, 13, 14, 15, 16] rfl) (va_Pr hP)
        have hD9 : va_D A (bkw h0 ((fun k => List.getD [0, q1, q6, q11, q16, q21, a_2, a_7, a_12, a_17, a_22, q26, q28, q30, q32, q34, q36] k 0, fun k => List.getD [k_3, k_3, k_3, k_3, k_3, k_3, k_3, k_8, k_13, k_18, k_23, k27, k29, k31, k33, k35, k37] k k_3, d, w) : BU)) := va_Dap ((va_Dl hD).sub (ws' := be17 h0 ((fun k => List.getD [0, q1, q6, q11, q16, q21, a_2, a_7, a_12, a_17, a_22, q26, q28, q30, q32, q34, q36] k 0, fun k => List.getD [k_3, k_3, k_3, k_3, k_3, k_3, k_3, k_8, k_13, k_18, k_23, k27, k29, k31, k33, k35, k37] k k_3, d, w) : BU)) [0, 1, 3, 5, 7, 9, 2, 4, 6, 8, 10, 11, 12, 13, 14, 15, 16] (by decide) rfl) (va_Dr hD) (dj_sub (wc := be17 h0 ((fun k => List.getD [0, q1, q6, q11, q16, q21, a_2, a_7, a_12, a_17, a_22, q26, q28, q30, q32, q34, q36] k 0, fun k => List.getD [k_3, k_3, k_3, k_3, k_3, k_3, k_3, k_8, k_13, k_18, k_23, k27, k29, k31, k33, k35, k37] k k_3, d, w) : BU)) [0, 1, 3, 5, 7, 9, 2, 4, 6, 8, 10, 11, 12, 13, 14, 15, 16] rfl (dj_ap hD))
        have hK9 : va_K D vwCl (bkt ((fun k => List.getD [0, q1, q6, q11, q16, q21, a_2, a_7, a_12, a_17, a_22, q26, q28, q30, q32, q34, q36] k 0, fun k => List.getD [k_3, k_3, k_3, k_3, k_3, k_3, k_3, k_8, k_13, k_18, k_23, k27, k29, k31, k33, k35, k37] k k_3, d, w) : BU)) s := ((va_Kl hK).sub (tys' := bt11 ((fun k => List.getD [0, q1, q6, q11, q16, q21, a_2, a_7, a_12, a_17, a_22, q26, q28, q30, q32, q34, q36] k 0, fun k => List.getD [k_3, k_3, k_3, k_3, k_3, k_3, k_3, k_8, k_13, k_18, k_23, k27, k29, k31, k33, k35, k37] k k_3, d, w) : BU)) [0, 1, 2, 3, 4, 5, 6, 7, 8, 9, 10] rfl).app (va_Kr hK)
        refine W.widen (k := 148) (n := 9822) (Nat.le_of_ble_eq_true rfl) (Nat.le_of_ble_eq_true rfl) ?_
        exact W.vret hx hb hr (fun t ht hW => ⟨⟨((fun k => List.getD [0, q1, q6, q11, q16, q21, a_2, a_7, a_12, a_17, a_22, q26, q28, q30, q32, q34, q36] k 0, fun k => List.getD [k_3, k_3, k_3, k_3, k_3, k_3, k_3, k_8, k_13, k_18, k_23, k27, k29, k31, k33, k35, k37] k k_3, d, w) : BU), rfl, trivial, by rw [ht]; exact hP9, va_K.moved hW.alike hK9, hD9⟩, hS.F ht⟩) hS.2.2 dX0_init_174
      · have gc2 : i < 12 := g_lt_ge (L := 12) (by omega) (by omega) c2
        refine lv_aload_n hx hb dX0_init_155 rfl (lv_at hl 1 rfl) ?_
        refine va_get (D := D) (ci := 0) (v := .ref q32) (C := RX0) (T := TX0) (N := 13) hx hb hg inX0 hown hK hP 0 rfl rfl 8 (by decide) (hg _ w619) (fun _ h9 => h9) rfl dX0_init_156 ?_
        refine lv_iload_n hx hb dX0_init_159 rfl (lv_at hl 0 rfl) ?_
        refine va_new (ci := 10) (fs := [.int 0, .int 0, .int 0, .int 0, .int 0]) (C := RX10) (T := TX10) (N := 5) hx hb hg inX10 tyX10 tyX10_ok hown (hg _ w492) (hg _ w570) (hg _ w170) hK hP hD hS hA rfl nfX10 (by show 136 + 1 * i + 1 ≤ 148; (first | exact om_4c7f92a00236 gc2 | omega)) (by show 9762 + 5 * i + 5 ≤ 9822; (first | exact om_ecdab5b674bb gc2 | omega)) dX0_init_160 (fun qn H hP hD hS => ?_)
        have hP : va_P D vwCl (HAppend.hAppend (α := va_W) (β := va_W) (γ := va_W) [(h0, .inr (0, [.ref q1, .ref q6, .ref q11, .ref q16, .ref q21, .ref q26, .ref q28, .ref q30, .ref q32, .ref q34, .ref q36, .int 0, .int 0])), (q1, .inr (6, [.ref a_2, .int 0])), (a_2, .inl (k_3, 24, .inr (.inl (fun _ => 0)))), (q6, .inr (6, [.ref a_7, .int 0])), (a_7, .inl (k_8, 12, .inr (.inl (fun _ => 0)))), (q11, .inr (6, [.ref a_12, .int 0])), (a_12, .inl (k_13, 24, .inr (.inl (fun _ => 0)))), (q16, .inr (6, [.ref a_17, .int 0])), (a_17, .inl (k_18, 20, .inr (.inl (fun _ => 0)))), (q21, .inr (6, [.ref a_22, .int 0])), (a_22, .inl (k_23, 20, .inr (.inl (fun _ => 0)))), (q26, .inl (k27, 24, .inl (fun _ => 0))), (q28, .inl (k29, 12, .inl (fun _ => 0))), (q30, .inl (k31, 24, .inr (.inr (.inr (.inr (fun q => if q < 24 then some (d q).1 else none)))))), (q32, .inl (k33, 12, .inr (.inr (.inr (.inr (fun q => if q < i then some (w q) else none)))))), (q34, .inl (k35, 12, .inl (fun _ => 0))), (q36, .inl (k37, 8200, .inl (fun _ => 0))), (qn, .inr (10, [.int 0, .int 0, .int 0, .int 0, .int 0]))] (RC wblk w i ++ RC cblk d 24)) H := va_Prot hP
        have hD : va_D A (HAppend.hAppend (α := va_W) (β := va_W) (γ := va_W) [(h0, .inr (0, [.ref q1, .ref q6, .ref q11, .ref q16, .ref q21, .ref q26, .ref q28, .ref q30, .ref q32, .ref q34, .ref q36, .int 0, .int 0])), (q1, .inr (6, [.ref a_2, .int 0])), (a_2, .inl (k_3, 24, .inr (.inl (fun _ => 0)))), (q6, .inr (6, [.ref a_7, .int 0])), (a_7, .inl (k_8, 12, .inr (.inl (fun _ => 0)))), (q11, .inr (6, [.ref a_12, .int 0])), (a_12, .inl (k_13, 24, .inr (.inl (fun _ => 0)))), (q16, .inr (6, [.ref a_17, .int 0])), (a_17, .inl (k_18, 20, .inr (.inl (fun _ => 0)))), (q21, .inr (6, [.ref a_22, .int 0])), (a_22, .inl (k_23, 20, .inr (.inl (fun _ => 0)))), (q26, .inl (k27, 24, .inl (fun _ => 0))), (q28, .inl (k29, 12, .inl (fun _ => 0))), (q30, .inl (k31, 24, .inr (.inr (.inr (.inr (fun q => if q < 24 then some (d q).1 else none)))))), (q32, .inl (k33, 12, .inr (.inr (.inr (.inr (fun q => if q < i then some (w q) else none)))))), (q34, .inl (k35, 12, .inl (fun _ => 0))), (q36, .inl (k37, 8200, .inl (fun _ => 0))), (qn, .inr (10, [.int 0, .int 0, .int 0, .int 0, .int 0]))] (RC wblk w i ++ RC cblk d 24)) := va_Drot hD
        refine lv_dup hx hb dX0_init_163 rfl ?_
        refine gR_void (wr := [(h0, .inr (0, [.ref q1, .ref q6, .ref q11, .ref q16, .ref q21, .ref q26, .ref q28, .ref q30, .ref q32, .ref q34, .ref q36, .int 0, .int 0])), (q1, .inr (6, [.ref a_2, .int 0])), (a_2, .inl (k_3, 24, .inr (.inl (fun _ => 0)))), (q6, .inr (6, [.ref a_7, .int 0])), (a_7, .inl (k_8, 12, .inr (.inl (fun _ => 0)))), (q11, .inr (6, [.ref a_12, .int 0])), (a_12, .inl (k_13, 24, .inr (.inl (fun _ => 0)))), (q16, .inr (6, [.ref a_17, .int 0])), (a_17, .inl (k_18, 20, .inr (.inl (fun _ => 0)))), (q21, .inr (6, [.ref a_22, .int 0])), (a_22, .inl (k_23, 20, .inr (.inl (fun _ => 0)))), (q26, .inl (k27, 24, .inl (fun _ => 0))), (q28, .inl (k29, 12, .inl (fun _ => 0))), (q30, .inl (k31, 24, .inr (.inr (.inr (.inr (fun q => if q < 24 then some (d q).1 else none)))))), (q32, .inl (k33, 12, .inr (.inr (.inr (.inr (fun q => if q < i then some (w q) else none)))))), (q34, .inl (k35, 12, .inl (fun _ => 0))), (q36, .inl (k37, 8200, .inl (fun _ => 0)))]) (tr := [(k_3, .long), (k_8, .long), (k_13, .long), (k_18, .long), (k_23, .long), (k27, .int), (k29, .int), (k31, .object RX3), (k33, .object RX10), (k35, .int), (k37, .int)]) (g_runIN (As := []) (rest := [.ref qn, .int (nI i), .ref q32]) (wc := [(qn, .inr (10, [.int 0, .int 0, .int 0, .int 0, .int 0]))]) (tc := []) hx hb hml hown hg gw_self (va_Pl hP) (va_Dl hD) (va_Kl hK) hS hA hnw hgk [17] [] (by decide) rfl rfl (c_Wrap_init l D ks H.size qn) n571 w572 w170 w573 rfl hdS_yX10_init ⟨Nat.le_of_ble_eq_true rfl, Nat.le_of_ble_eq_true rfl⟩ rfl hl.1 rfl (Nat.le_of_ble_eq_true rfl) dX0_init_164 ⟨(by show 136 + 1 * i + 1 + 0 ≤ 148; (first | exact om_818b8312b926 gc2 | omega)), (by show 9762 + 5 * i + 5 + 0 ≤ 9822; (first | exact om_60beb380f0c2 gc2 | omega))⟩) hP hD hK hS hA [17] [0, 1, 2, 3, 4, 5, 6, 7, 8, 9, 10, 11, 12, 13, 14, 15, 16] [0, 1, 2, 3, 4, 5, 6, 7, 8, 9, 10] rfl rfl (by decide) (by decide) rfl (fun u H locs hw hP hD hK hS => ?_)
        refine va_cv hP hD (ws' := (HAppend.hAppend (α := va_W) (β := va_W) (γ := va_W) [(h0, .inr (0, [.ref q1, .ref q6, .ref q11, .ref q16, .ref q21, .ref q26, .ref q28, .ref q30, .ref q32, .ref q34, .ref q36, .int 0, .int 0])), (q1, .inr (6, [.ref a_2, .int 0])), (a_2, .inl (k_3, 24, .inr (.inl (fun _ => 0)))), (q6, .inr (6, [.ref a_7, .int 0])), (a_7, .inl (k_8, 12, .inr (.inl (fun _ => 0)))), (q11, .inr (6, [.ref a_12, .int 0])), (a_12, .inl (k_13, 24, .inr (.inl (fun _ => 0)))), (q16, .inr (6, [.ref a_17, .int 0])), (a_17, .inl (k_18, 20, .inr (.inl (fun _ => 0)))), (q21, .inr (6, [.ref a_22, .int 0])), (a_22, .inl (k_23, 20, .inr (.inl (fun _ => 0)))), (q26, .inl (k27, 24, .inl (fun _ => 0))), (q28, .inl (k29, 12, .inl (fun _ => 0))), (q30, .inl (k31, 24, .inr (.inr (.inr (.inr (fun q => if q < 24 then some (d q).1 else none)))))), (q32, .inl (k33, 12, .inr (.inr (.inr (.inr (fun q => if q < i then some (w q) else none)))))), (q34, .inl (k35, 12, .inl (fun _ => 0))), (q36, .inl (k37, 8200, .inl (fun _ => 0))), (qn, .inr (10, [.int 0, .int 0, .int 0, .int 0, .int 0]))] (RC wblk w i ++ RC cblk d 24))) rfl (fun hP hD => ?_)
        have hK : va_K D vwCl ([(k_3, .long), (k_8, .long), (k_13, .long), (k_18, .long), (k_23, .long), (k27, .int), (k29, .int), (k31, .object RX3), (k33, .object RX10), (k35, .int), (k37, .int)] ++ RTy cty d 24) s := hK
        refine va_astq (D := D) (i := nI i) (v := qn) (r := (RX10, TX10, 5)) hx hb hK hP hD hS 14 8 17 10 rfl rfl rfl rfl (vp_in_nI (by omega) (by omega)) dX0_init_167 (fun H locs hP hD hS => ?_)
        refine va_cv hP hD (ws' := (HAppend.hAppend (α := va_W) (β := va_W) (γ := va_W) [(h0, .inr (0, [.ref q1, .ref q6, .ref q11, .ref q16, .ref q21, .ref q26, .ref q28, .ref q30, .ref q32, .ref q34, .ref q36, .int 0, .int 0])), (q1, .inr (6, [.ref a_2, .int 0])), (a_2, .inl (k_3, 24, .inr (.inl (fun _ => 0)))), (q6, .inr (6, [.ref a_7, .int 0])), (a_7, .inl (k_8, 12, .inr (.inl (fun _ => 0)))), (q11, .inr (6, [.ref a_12, .int 0])), (a_12, .inl (k_13, 24, .inr (.inl (fun _ => 0)))), (q16, .inr (6, [.ref a_17, .int 0])), (a_17, .inl (k_18, 20, .inr (.inl (fun _ => 0)))), (q21, .inr (6, [.ref a_22, .int 0])), (a_22, .inl (k_23, 20, .inr (.inl (fun _ => 0)))), (q26, .inl (k27, 24, .inl (fun _ => 0))), (q28, .inl (k29, 12, .inl (fun _ => 0))), (q30, .inl (k31, 24, .inr (.inr (.inr (.inr (fun q => if q < 24 then some (d q).1 else none)))))), (q32, .inl (k33, 12, .inr (.inr (.inr (.inr (va_up (fun q => if q < i then some (w q) else none) (Int32.toNatClampNeg (nI i)) (some qn))))))), (q34, .inl (k35, 12, .inl (fun _ => 0))), (q36, .inl (k37, 8200, .inl (fun _ => 0))), (qn, .inr (10, [.int 0, .int 0, .int 0, .int 0, .int 0]))] (RC wblk w i ++ RC cblk d 24))) rfl (fun hP hD => ?_)
        rw [nI_clamp (by omega)] at hP hD
        have eup : va_up (fun q => if q < i then some (w q) else none) i (some qn) = (fun q => if q < i + 1 then some (if q = i then qn else w q) else none) := up_fn (fst := fun y : Nat => y) (d := w) (x := qn) (n := i)
        rw [eup] at hP hD
        have hP : va_P D vwCl (HAppend.hAppend (α := va_W) (β := va_W) (γ := va_W) [(h0, .inr (0, [.ref q1, .ref q6, .ref q11, .ref q16, .ref q21, .ref q26, .ref q28, .ref q30, .ref q32, .ref q34, .ref q36, .int 0, .int 0])), (q1, .inr (6, [.ref a_2, .int 0])), (a_2, .inl (k_3, 24, .inr (.inl (fun _ => 0)))), (q6, .inr (6, [.ref a_7, .int 0])), (a_7, .inl (k_8, 12, .inr (.inl (fun _ => 0)))), (q11, .inr (6, [.ref a_12, .int 0])), (a_12, .inl (k_13, 24, .inr (.inl (fun _ => 0)))), (q16, .inr (6, [.ref a_17, .int 0])), (a_17, .inl (k_18, 20, .inr (.inl (fun _ => 0)))), (q21, .inr (6, [.ref a_22, .int 0])), (a_22, .inl (k_23, 20, .inr (.inl (fun _ => 0)))), (q26, .inl (k27, 24, .inl (fun _ => 0))), (q28, .inl (k29, 12, .inl (fun _ => 0))), (q30, .inl (k31, 24, .inr (.inr (.inr (.inr (fun q => if q < 24 then some (d q).1 else none)))))), (q32, .inl (k33, 12, .inr (.inr (.inr (.inr (fun q => if q < i + 1 then some (if q = i then qn else w q) else none)))))), (q34, .inl (k35, 12, .inl (fun _ => 0))), (q36, .inl (k37, 8200, .inl (fun _ => 0)))] (RC wblk (fun j => if j = i then qn else w j) (i + 1) ++ RC cblk d 24)) H := by rw [RC_up]; exact hP
        have hD : va_D A (HAppend.hAppend (α := va_W) (β := va_W) (γ := va_W) [(h0, .inr (0, [.ref q1, .ref q6, .ref q11, .ref q16, .ref q21, .ref q26, .ref q28, .ref q30, .ref q32, .ref q34, .ref q36, .int 0, .int 0])), (q1, .inr (6, [.ref a_2, .int 0])), (a_2, .inl (k_3, 24, .inr (.inl (fun _ => 0)))), (q6, .inr (6, [.ref a_7, .int 0])), (a_7, .inl (k_8, 12, .inr (.inl (fun _ => 0)))), (q11, .inr (6, [.ref a_12, .int 0])), (a_12, .inl (k_13, 24, .inr (.inl (fun _ => 0)))), (q16, .inr (6, [.ref a_17, .int 0])), (a_17, .inl (k_18, 20, .inr (.inl (fun _ => 0)))), (q21, .inr (6, [.ref a_22, .int 0])), (a_22, .inl (k_23, 20, .inr (.inl (fun _ => 0)))), (q26, .inl (k27, 24, .inl (fun _ => 0))), (q28, .inl (k29, 12, .inl (fun _ => 0))), (q30, .inl (k31, 24, .inr (.inr (.inr (.inr (fun q => if q < 24 then some (d q).1 else none)))))), (q32, .inl (k33, 12, .inr (.inr (.inr (.inr (fun q => if q < i + 1 then some (if q = i then qn else w q) else none)))))), (q34, .inl (k35, 12, .inl (fun _ => 0))), (q36, .inl (k37, 8200, .inl (fun _ => 0)))] (RC wblk (fun j => if j = i then qn else w j) (i + 1) ++ RC cblk d 24)) := by rw [RC_up]; exact hD
        have hK : va_K D vwCl ([(k_3, .long), (k_8, .long), (k_13, .long), (k_18, .long), (k_23, .long), (k27, .int), (k29, .int), (k31, .object RX3), (k33, .object RX10), (k35, .int), (k37, .int)] ++ RTy cty d 24) s := hK
        refine lv_iinc (v := (nI (i + 1))) (lv' := [(1, .int (nI (i + 1))), (0, .ref h0)]) hx hb dX0_init_168 hl (k := 0) rfl (nI_1 _) (by decide) rfl (fun ls hl => ?_)
        refine lv_goto (tgt := 149) hx hb dX0_init_171 (by decide) ?_
        refine W.widen (k := 136 + 1 * (i + 1)) (n := 9762 + 5 * (i + 1)) (by show 136 + 1 * i + 1 + 0 ≤ 136 + 1 * (i + 1); (first | exact om_097b5fa772dd | omega)) (by show 9762 + 5 * i + 5 + 0 ≤ 9762 + 5 * (i + 1); (first | exact om_6be2806efb3d | omega)) ?_
        exact ih (i + 1) d (fun j => if j = i then qn else w j) H locs ls (by omega) (by omega) hP hD hK hS hl
  have lp1 : ∀ (n i : Nat) (d : Nat → CU) (H : Heap) (locs : List Loc) (ls : Array Slot), i ≤ 24 → 24 < i + n → va_P D vwCl ([(h0, .inr (0, [.ref q1, .ref q6, .ref q11, .ref q16, .ref q21, .ref q26, .ref q28, .ref q30, .ref q32, .ref q34, .ref q36, .int 0, .int 0])), (q1, .inr (6, [.ref a_2, .int 0])), (a_2, .inl (k_3, 24, .inr (.inl (fun _ => 0)))), (q6, .inr (6, [.ref a_7, .int 0])), (a_7, .inl (k_8, 12, .inr (.inl (fun _ => 0)))), (q11, .inr (6, [.ref a_12, .int 0])), (a_12, .inl (k_13, 24, .inr (.inl (fun _ => 0)))), (q16, .inr (6, [.ref a_17, .int 0])), (a_17, .inl (k_18, 20, .inr (.inl (fun _ => 0)))), (q21, .inr (6, [.ref a_22, .int 0])), (a_22, .inl (k_23, 20, .inr (.inl (fun _ => 0)))), (q26, .inl (k27, 24, .inl (fun _ => 0))), (q28, .inl (k29, 12, .inl (fun _ => 0))), (q30, .inl (k31, 24, .inr (.inr (.inr (.inr (fun q => if q < i then some (d q).1 else none)))))), (q32, .inl (k33, 12, .inr (.inr (.inr (.inr (fun _ => none)))))), (q34, .inl (k35, 12, .inl (fun _ => 0))), (q36, .inl (k37, 8200, .inl (fun _ => 0)))] ++ RC cblk d i) H → va_D A ([(h0, .inr (0, [.ref q1, .ref q6, .ref q11, .ref q16, .ref q21, .ref q26, .ref q28, .ref q30, .ref q32, .ref q34, .ref q36, .int 0, .int 0])), (q1, .inr (6, [.ref a_2, .int 0])), (a_2, .inl (k_3, 24, .inr (.inl (fun _ => 0)))), (q6, .inr (6, [.ref a_7, .int 0])), (a_7, .inl (k_8, 12, .inr (.inl (fun _ => 0)))), (q11, .inr (6, [.ref a_12, .int 0])), (a_12, .inl (k_13, 24, .inr (.inl (fun _ => 0)))), (q16, .inr (6, [.ref a_17, .int 0])), (a_17, .inl (k_18, 20, .inr (.inl (fun _ => 0)))), (q21, .inr (6, [.ref a_22, .int 0])), (a_22, .inl (k_23, 20, .inr (.inl (fun _ => 0)))), (q26, .inl (k27, 24, .inl (fun _ => 0))), (q28, .inl (k29, 12, .inl (fun _ => 0))), (q30, .inl (k31, 24, .inr (.inr (.inr (.inr (fun q => if q < i then some (d q).1 else none)))))), (q32, .inl (k33, 12, .inr (.inr (.inr (.inr (fun _ => none)))))), (q34, .inl (k35, 12, .inl (fun _ => 0))), (q36, .inl (k37, 8200, .inl (fun _ => 0)))] ++ RC cblk d i) → va_K D vwCl ([(k_3, .long), (k_8, .long), (k_13, .long), (k_18, .long), (k_23, .long), (k27, .int), (k29, .int), (k31, .object RX3), (k33, .object RX10), (k35, .int), (k37, .int)] ++ RTy cty d i) s → va_S A s.heap H locs → lv_has ls 2 [(1, .int (nI i)), (0, .ref h0)] → W p l e r_c_Book_init s m ([.ref h0] : List Value).toArray below meth c H locs (16 + 5 * i) (8394 + 57 * i) (MQ below (q_c_Book_init D h0 A) ([.ref h0] : List Value).toArray s 148 9822 A) (F0 m 122 ls []) := by
    intro n
    induction n with
    | zero =>
      intro i d H locs ls hi hn hP hD hK hS hl
      exact absurd hn (by omega)
    | succ n ih =>
      intro i d H locs ls hi hn hP hD hK hS hl
      refine lv_iload_n hx hb dX0_init_122 rfl (lv_at hl 0 rfl) ?_
      refine lv_bipush (v := 24) hx hb dX0_init_123 (by decide) ?_
      refine lv_icmp_ge (tgt := 147) hx hb dX0_init_125 (by decide) (fun c2 => ?_) (fun c2 => ?_)
      · have gc2 : 24 ≤ i := g_ge_ge (L := 24) (by omega) (by omega) c2
        have e9 : i = 24 := by omega
        subst e9
        refine lv_iconst (v := 0) hx hb dX0_init_147 (by decide) ?_
        refine lv_istore_n (lv' := [(1, .int (nI 0)), (0, .ref h0)]) hx hb dX0_init_148 rfl hl (by decide) rfl (fun ls hl => ?_)
        have ew0 : (fun _ => none : Nat → Option Nat) = (fun q => if q < 0 then some ((fun _ => 0 : Nat → Nat) q) else none) := by funext q; rw [if_neg (Nat.not_lt_zero q)]
        exact lp2 13 0 d (fun _ => 0) H locs ls (by omega) (by omega) (by rw [← ew0]; exact hP) (by rw [← ew0]; exact hD) hK hS hl
      · have gc2 : i < 24 := g_lt_ge (L := 24) (by omega) (by omega) c2
        refine lv_aload_n hx hb dX0_init_128 rfl (lv_at hl 1 rfl) ?_
        refine va_get (D := D) (ci := 0) (v := .ref q30) (C := RX0) (T := TX0) (N := 13) hx hb hg inX0 hown hK hP 0 rfl rfl 7 (by decide) (hg _ w614) (fun _ h9 => h9) rfl dX0_init_129 ?_
        refine lv_iload_n hx hb dX0_init_132 rfl (lv_at hl 0 rfl) ?_
        refine va_new (ci := 3) (fs := [.null, .null, .null, .null, .int 0, .int 0, .int 0, .int 0, .int 0, .int 0, .int 0, .int 0, .int 0]) (C := RX3) (T := TX3) (N := 13) hx hb hg inX3 tyX3 tyX3_ok hown (hg _ w490) (hg _ w494) (hg _ w169) hK hP hD hS hA rfl nfX3 (by show 16 + 5 * i + 1 ≤ 148; (first | exact om_7f8c846ea616 gc2 | omega)) (by show 8394 + 57 * i + 13 ≤ 9822; (first | exact om_74d79b0c04be gc2 | omega)) dX0_init_133 (fun qn H hP hD hS => ?_)
        have hP : va_P D vwCl ([(h0, .inr (0, [.ref q1, .ref q6, .ref q11, .ref q16, .ref q21, .ref q26, .ref q28, .ref q30, .ref q32, .ref q34, .ref q36, .int 0, .int 0])), (q1, .inr (6, [.ref a_2, .int 0])), (a_2, .inl (k_3, 24, .inr (.inl (fun _ => 0)))), (q6, .inr (6, [.ref a_7, .int 0])), (a_7, .inl (k_8, 12, .inr (.inl (fun _ => 0)))), (q11, .inr (6, [.ref a_12, .int 0])), (a_12, .inl (k_13, 24, .inr (.inl (fun _ => 0)))), (q16, .inr (6, [.ref a_17, .int 0])), (a_17, .inl (k_18, 20, .inr (.inl (fun _ => 0)))), (q21, .inr (6, [.ref a_22, .int 0])), (a_22, .inl (k_23, 20, .inr (.inl (fun _ => 0)))), (q26, .inl (k27, 24, .inl (fun _ => 0))), (q28, .inl (k29, 12, .inl (fun _ => 0))), (q30, .inl (k31, 24, .inr (.inr (.inr (.inr (fun q => if q < i then some (d q).1 else none)))))), (q32, .inl (k33, 12, .inr (.inr (.inr (.inr (fun _ => none)))))), (q34, .inl (k35, 12, .inl (fun _ => 0))), (q36, .inl (k37, 8200, .inl (fun _ => 0))), (qn, .inr (3, [.null, .null, .null, .null, .int 0, .int 0, .int 0, .int 0, .int 0, .int 0, .int 0, .int 0, .int 0]))] ++ RC cblk d i) H := va_Prot hP
        have hD : va_D A ([(h0, .inr (0, [.ref q1, .ref q6, .ref q11, .ref q16, .ref q21, .ref q26, .ref q28, .ref q30, .ref q32, .ref q34, .ref q36, .int 0, .int 0])), (q1, .inr (6, [.ref a_2, .int 0])), (a_2, .inl (k_3, 24, .inr (.inl (fun _ => 0)))), (q6, .inr (6, [.ref a_7, .int 0])), (a_7, .inl (k_8, 12, .inr (.inl (fun _ => 0)))), (q11, .inr (6, [.ref a_12, .int 0])), (a_12, .inl (k_13, 24, .inr (.inl (fun _ => 0)))), (q16, .inr (6, [.ref a_17, .int 0])), (a_17, .inl (k_18, 20, .inr (.inl (fun _ => 0)))), (q21, .inr (6, [.ref a_22, .int 0])), (a_22, .inl (k_23, 20, .inr (.inl (fun _ => 0)))), (q26, .inl (k27, 24, .inl (fun _ => 0))), (q28, .inl (k29, 12, .inl (fun _ => 0))), (q30, .inl (k31, 24, .inr (.inr (.inr (.inr (fun q => if q < i then some (d q).1 else none)))))), (q32, .inl (k33, 12, .inr (.inr (.inr (.inr (fun _ => none)))))), (q34, .inl (k35, 12, .inl (fun _ => 0))), (q36, .inl (k37, 8200, .inl (fun _ => 0))), (qn, .inr (3, [.null, .null, .null, .null, .int 0, .int 0, .int 0, .int 0, .int 0, .int 0, .int 0, .int 0, .int 0]))] ++ RC cblk d i) := va_Drot hD
        refine lv_dup hx hb dX0_init_136 rfl ?_
        refine gR_void (wr := [(h0, .inr (0, [.ref q1, .ref q6, .ref q11, .ref q16, .ref q21, .ref q26, .ref q28, .ref q30, .ref q32, .ref q34, .ref q36, .int 0, .int 0])), (q1, .inr (6, [.ref a_2, .int 0])), (a_2, .inl (k_3, 24, .inr (.inl (fun _ => 0)))), (q6, .inr (6, [.ref a_7, .int 0])), (a_7, .inl (k_8, 12, .inr (.inl (fun _ => 0)))), (q11, .inr (6, [.ref a_12, .int 0])), (a_12, .inl (k_13, 24, .inr (.inl (fun _ => 0)))), (q16, .inr (6, [.ref a_17, .int 0])), (a_17, .inl (k_18, 20, .inr (.inl (fun _ => 0)))), (q21, .inr (6, [.ref a_22, .int 0])), (a_22, .inl (k_23, 20, .inr (.inl (fun _ => 0)))), (q26, .inl (k27, 24, .inl (fun _ => 0))), (q28, .inl (k29, 12, .inl (fun _ => 0))), (q30, .inl (k31, 24, .inr (.inr (.inr (.inr (fun q => if q < i then some (d q).1 else none)))))), (q32, .inl (k33, 12, .inr (.inr (.inr (.inr (fun _ => none)))))), (q34, .inl (k35, 12, .inl (fun _ => 0))), (q36, .inl (k37, 8200, .inl (fun _ => 0)))]) (tr := [(k_3, .long), (k_8, .long), (k_13, .long), (k_18, .long), (k_23, .long), (k27, .int), (k29, .int), (k31, .object RX3), (k33, .object RX10), (k35, .int), (k37, .int)]) (g_runIN (As := []) (rest := [.ref qn, .int (nI i), .ref q30]) (wc := [(qn, .inr (3, [.null, .null, .null, .null, .int 0, .int 0, .int 0, .int 0, .int 0, .int 0, .int 0, .int 0, .int 0]))]) (tc := []) hx hb hml hown hg gw_self (va_Pl hP) (va_Dl hD) (va_Kl hK) hS hA hnw hgk [17] [] (by decide) rfl rfl (c_Component_init l D ks H.size qn) n495 w496 w169 w497 rfl hdS_yX3_init ⟨Nat.le_of_ble_eq_true rfl, Nat.le_of_ble_eq_true rfl⟩ rfl hl.1 rfl (Nat.le_of_ble_eq_true rfl) dX0_init_137 ⟨(by show 16 + 5 * i + 1 + 4 ≤ 148; (first | exact om_b687616ed6d7 gc2 | omega)), (by show 8394 + 57 * i + 13 + 44 ≤ 9822; (first | exact om_bee8ef8ad682 gc2 | omega))⟩) hP hD hK hS hA [17] [0, 1, 2, 3, 4, 5, 6, 7, 8, 9, 10, 11, 12, 13, 14, 15, 16] [0, 1, 2, 3, 4, 5, 6, 7, 8, 9, 10] rfl rfl (by decide) (by decide) rfl (fun u H locs hw hP hD hK hS => ?_)
        obtain ⟨a0, a1, a2, a3, k0, k1, k2, k3⟩ := u
        refine va_cv hP hD (ws' := ([(h0, .inr (0, [.ref q1, .ref q6, .ref q11, .ref q16, .ref q21, .ref q26, .ref q28, .ref q30, .ref q32, .ref q34, .ref q36, .int 0, .int 0])), (q1, .inr (6, [.ref a_2, .int 0])), (a_2, .inl (k_3, 24, .inr (.inl (fun _ => 0)))), (q6, .inr (6, [.ref a_7, .int 0])), (a_7, .inl (k_8, 12, .inr (.inl (fun _ => 0)))), (q11, .inr (6, [.ref a_12, .int 0])), (a_12, .inl (k_13, 24, .inr (.inl (fun _ => 0)))), (q16, .inr (6, [.ref a_17, .int 0])), (a_17, .inl (k_18, 20, .inr (.inl (fun _ => 0)))), (q21, .inr (6, [.ref a_22, .int 0])), (a_22, .inl (k_23, 20, .inr (.inl (fun _ => 0)))), (q26, .inl (k27, 24, .inl (fun _ => 0))), (q28, .inl (k29, 12, .inl (fun _ => 0))), (q30, .inl (k31, 24, .inr (.inr (.inr (.inr (fun q => if q < i then some (d q).1 else none)))))), (q32, .inl (k33, 12, .inr (.inr (.inr (.inr (fun _ => none)))))), (q34, .inl (k35, 12, .inl (fun _ => 0))), (q36, .inl (k37, 8200, .inl (fun _ => 0))), (qn, .inr (3, [.ref a0, .ref a1, .ref a2, .ref a3, .int 0, .int 0, .int 0, .int 0, .int 0, .int 0, .int 0, .int 0, .int 0])), (a0, .inl (k0, 8, .inl (fun _ => 0))), (a1, .inl (k1, 8, .inl (fun _ => 0))), (a2, .inl (k2, 8, .inl (fun _ => 0))), (a3, .inl (k3, 20, .inl (fun _ => 0)))] ++ RC cblk d i)) rfl (fun hP hD => ?_)
        have hK : va_K D vwCl ([(k_3, .long), (k_8, .long), (k_13, .long), (k_18, .long), (k_23, .long), (k27, .int), (k29, .int), (k31, .object RX3), (k33, .object RX10), (k35, .int), (k37, .int), (k0, .int), (k1, .int), (k2, .int), (k3, .int)] ++ RTy cty d i) s := hK
        refine va_astq (D := D) (i := nI i) (v := qn) (r := (RX3, TX3, 13)) hx hb hK hP hD hS 13 7 17 3 rfl rfl rfl rfl (vp_in_nI (by omega) (by omega)) dX0_init_140 (fun H locs hP hD hS => ?_)
        refine va_cv hP hD (ws' := ([(h0, .inr (0, [.ref q1, .ref q6, .ref q11, .ref q16, .ref q21, .ref q26, .ref q28, .ref q30, .ref q32, .ref q34, .ref q36, .int 0, .int 0])), (q1, .inr (6, [.ref a_2, .int 0])), (a_2, .inl (k_3, 24, .inr (.inl (fun _ => 0)))), (q6, .inr (6, [.ref a_7, .int 0])), (a_7, .inl (k_8, 12, .inr (.inl (fun _ => 0)))), (q11, .inr (6, [.ref a_12, .int 0])), (a_12, .inl (k_13, 24, .inr (.inl (fun _ => 0)))), (q16, .inr (6, [.ref a_17, .int 0])), (a_17, .inl (k_18, 20, .inr (.inl (fun _ => 0)))), (q21, .inr (6, [.ref a_22, .int 0])), (a_22, .inl (k_23, 20, .inr (.inl (fun _ => 0)))), (q26, .inl (k27, 24, .inl (fun _ => 0))), (q28, .inl (k29, 12, .inl (fun _ => 0))), (q30, .inl (k31, 24, .inr (.inr (.inr (.inr (va_up (fun q => if q < i then some (d q).1 else none) (Int32.toNatClampNeg (nI i)) (some qn))))))), (q32, .inl (k33, 12, .inr (.inr (.inr (.inr (fun _ => none)))))), (q34, .inl (k35, 12, .inl (fun _ => 0))), (q36, .inl (k37, 8200, .inl (fun _ => 0))), (qn, .inr (3, [.ref a0, .ref a1, .ref a2, .ref a3, .int 0, .int 0, .int 0, .int 0, .int 0, .int 0, .int 0, .int 0, .int 0])), (a0, .inl (k0, 8, .inl (fun _ => 0))), (a1, .inl (k1, 8, .inl (fun _ => 0))), (a2, .inl (k2, 8, .inl (fun _ => 0))), (a3, .inl (k3, 20, .inl (fun _ => 0)))] ++ RC cblk d i)) rfl (fun hP hD => ?_)
        rw [nI_clamp (by omega)] at hP hD
        have eup : va_up (fun q => if q < i then some (d q).1 else none) i (some qn) = (fun q => if q < i + 1 then some (if q = i then ((qn, a0, a1, a2, a3, k0, k1, k2, k3) : CU) else d q).1 else none) := up_fn (fst := fun y : CU => y.1) (d := d) (x := ((qn, a0, a1, a2, a3, k0, k1, k2, k3) : CU)) (n := i)
        rw [eup] at hP hD
        have hP : va_P D vwCl ([(h0, .inr (0, [.ref q1, .ref q6, .ref q11, .ref q16, .ref q21, .ref q26, .ref q28, .ref q30, .ref q32, .ref q34, .ref q36, .int 0, .int 0])), (q1, .inr (6, [.ref a_2, .int 0])), (a_2, .inl (k_3, 24, .inr (.inl (fun _ => 0)))), (q6, .inr (6, [.ref a_7, .int 0])), (a_7, .inl (k_8, 12, .inr (.inl (fun _ => 0)))), (q11, .inr (6, [.ref a_12, .int 0])), (a_12, .inl (k_13, 24, .inr (.inl (fun _ => 0)))), (q16, .inr (6, [.ref a_17, .int 0])), (a_17, .inl (k_18, 20, .inr (.inl (fun _ => 0)))), (q21, .inr (6, [.ref a_22, .int 0])), (a_22, .inl (k_23, 20, .inr (.inl (fun _ => 0)))), (q26, .inl (k27, 24, .inl (fun _ => 0))), (q28, .inl (k29, 12, .inl (fun _ => 0))), (q30, .inl (k31, 24, .inr (.inr (.inr (.inr (fun q => if q < i + 1 then some (if q = i then ((qn, a0, a1, a2, a3, k0, k1, k2, k3) : CU) else d q).1 else none)))))), (q32, .inl (k33, 12, .inr (.inr (.inr (.inr (fun _ => none)))))), (q34, .inl (k35, 12, .inl (fun _ => 0))), (q36, .inl (k37, 8200, .inl (fun _ => 0)))] ++ RC cblk (fun j => if j = i then ((qn, a0, a1, a2, a3, k0, k1, k2, k3) : CU) else d j) (i + 1)) H := by rw [RC_up]; exact hP
        have hD : va_D A ([(h0, .inr (0, [.ref q1, .ref q6, .ref q11, .ref q16, .ref q21, .ref q26, .ref q28, .ref q30, .ref q32, .ref q34, .ref q36, .int 0, .int 0])), (q1, .inr (6, [.ref a_2, .int 0])), (a_2, .inl (k_3, 24, .inr (.inl (fun _ => 0)))), (q6, .inr (6, [.ref a_7, .int 0])), (a_7, .inl (k_8, 12, .inr (.inl (fun _ => 0)))), (q11, .inr (6, [.ref a_12, .int 0])), (a_12, .inl (k_13, 24, .inr (.inl (fun _ => 0)))), (q16, .inr (6, [.ref a_17, .int 0])), (a_17, .inl (k_18, 20, .inr (.inl (fun _ => 0)))), (q21, .inr (6, [.ref a_22, .int 0])), (a_22, .inl (k_23, 20, .inr (.inl (fun _ => 0)))), (q26, .inl (k27, 24, .inl (fun _ => 0))), (q28, .inl (k29, 12, .inl (fun _ => 0))), (q30, .inl (k31, 24, .inr (.inr (.inr (.inr (fun q => if q < i + 1 then some (if q = i then ((qn, a0, a1, a2, a3, k0, k1, k2, k3) : CU) else d q).1 else none)))))), (q32, .inl (k33, 12, .inr (.inr (.inr (.inr (fun _ => none)))))), (q34, .inl (k35, 12, .inl (fun _ => 0))), (q36, .inl (k37, 8200, .inl (fun _ => 0)))] ++ RC cblk (fun j => if j = i then ((qn, a0, a1, a2, a3, k0, k1, k2, k3) : CU) else d j) (i + 1)) := by rw [RC_up]; exact hD
        have hK : va_K D vwCl ([(k_3, .long), (k_8, .long), (k_13, .long), (k_18, .long), (k_23, .long), (k27, .int), (k29, .int), (k31, .object RX3), (k33, .object RX10), (k35, .int), (k37, .int)] ++ RTy cty (fun j => if j = i then ((qn, a0, a1, a2, a3, k0, k1, k2, k3) : CU) else d j) (i + 1)) s := by rw [RTy_up]; exact hK
        refine lv_iinc (v := (nI (i + 1))) (lv' := [(1, .int (nI (i + 1))), (0, .ref h0)]) hx hb dX0_init_141 hl (k := 0) rfl (nI_1 _) (by decide) rfl (fun ls hl => ?_)
        refine lv_goto (tgt := 122) hx hb dX0_init_144 (by decide) ?_
        refine W.widen (k := 16 + 5 * (i + 1)) (n := 8394 + 57 * (i + 1)) (by show 16 + 5 * i + 1 + 4 ≤ 16 + 5 * (i + 1); (first | exact om_aa89c9edebfc | omega)) (by show 8394 + 57 * i + 13 + 44 ≤ 8394 + 57 * (i + 1); (first | exact om_dd313040f34f | omega)) ?_
        exact ih (i + 1) (fun j => if j = i then ((qn, a0, a1, a2, a3, k0, k1, k2, k3) : CU) else d j) H locs ls (by omega) (by omega) hP hD hK hS hl
  have ec0 : (fun _ => none : Nat → Option Nat) = (fun q => if q < 0 then some ((fun _ => (0, 0, 0, 0, 0, k31, k31, k31, k31) : Nat → CU) q).1 else none) := by funext q; rw [if_neg (Nat.not_lt_zero q)]
  refine W.widen (k := 16 + 5 * 0) (n := 8394 + 57 * 0) (Nat.le_of_ble_eq_true rfl) (Nat.le_of_ble_eq_true rfl) ?_
  exact lp1 25 0 (fun _ => (0, 0, 0, 0, 0, k31, k31, k31, k31)) H locs ls (by omega) (by omega) (by rw [← ec0]; exact hP) (by rw [← ec0]; exact hD) hK hS hl
end
