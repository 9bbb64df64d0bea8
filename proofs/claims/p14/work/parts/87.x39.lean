theorem fill_up {f g h : Nat → Int32} {i : Nat} {pv : Int32} (hg : ∀ q : Nat, g q = if q < i then pv else f q) (e : h = upd g i pv) : ∀ q : Nat, h q = if q < i + 1 then pv else f q := by
  intro q
  rw [e]
  show (if q = i then pv else g q) = _
  by_cases z : q = i
  · rw [if_pos z, if_pos (by omega)]
  · rw [if_neg z, hg q]
    by_cases y : q < i
    · rw [if_pos y, if_pos (by omega)]
    · rw [if_neg y, if_neg (by omega)]
theorem kw48 : ∀ i, i < 155 → ¬ kwc i = 32 → ¬ kwc i < 48 := by decide +kernel
theorem kw57 : ∀ i, i < 155 → ¬ kwc i = 32 → kwc i > 57 := by decide +kernel
theorem sp_lt : ∀ i, i < 155 → sp i < 28 := by decide +kernel
def kc : Nat → Nat → Int64
  | 0, _ => 0
  | i + 1, j => if kwc i = 32 then kc i j else (if j = sp i then kc i j * 37 + Int32.toInt64 (kwc i - 97 + 1) else kc i j)
theorem kc_kg : ∀ j, j < 28 → kc 155 j = kg 155 j := by decide +kernel
theorem kc_p {i : Nat} (h : kwc i = 32) (j : Nat) : kc (i + 1) j = kc i j := if_pos h
theorem kc_n {i : Nat} (h : ¬ kwc i = 32) (j : Nat) : kc (i + 1) j = if j = sp i then kc i j * 37 + Int32.toInt64 (kwc i - 97 + 1) else kc i j := if_neg h
theorem kc_up {i k : Nat} {g : Nat → Int64} (hk : k = sp i) (hg : ∀ j : Nat, g j = kc i j) (j : Nat) : vp_updL g k (g k * 37 + Int32.toInt64 (kwc i - 97 + 1)) j = if j = sp i then kc i j * 37 + Int32.toInt64 (kwc i - 97 + 1) else kc i j := by
  unfold vp_updL
  rw [← hk]
  by_cases h : j = k
  · rw [if_pos h, if_pos h, h, hg k]
  · rw [if_neg h, if_neg h]
    exact hg j

theorem w478 : Cond.methodLink RX6 3 objectInit ∈ GW := gw_k tk9_2 83 (by decide +kernel) rfl
theorem w574 : Cond.methodLink RX10 1 objectInit ∈ GW := gw_k tk9_2 179 (by decide +kernel) rfl
theorem w498 : Cond.methodLink RX3 3 objectInit ∈ GW := gw_k tk9_2 103 (by decide +kernel) rfl
theorem w434 : Cond.methodLink RX7 3 objectInit ∈ GW := gw_k tk9_2 39 (by decide +kernel) rfl
theorem w337 : Cond.methodLink RX2 3 objectInit ∈ GW := gw_k tk9_1 182 (by decide +kernel) rfl
theorem w303 : Cond.methodLink RX1 3 objectInit ∈ GW := gw_k tk9_1 148 (by decide +kernel) rfl
theorem w664 : Cond.methodLink RX5 3 objectInit ∈ GW := gw_k tk9_3 29 (by decide +kernel) rfl
theorem w369 : Cond.methodLink RX8 3 objectInit ∈ GW := gw_k tk9_1 214 (by decide +kernel) rfl
theorem w195 : Cond.methodLink RX9 3 objectInit ∈ GW := gw_k tk9_1 40 (by decide +kernel) rfl
theorem w295 : Cond.arrayClass .byte ∈ GW := gw_k tk9_1 140 (by decide +kernel) rfl
theorem w197 : Cond.methodLink RX9 31 yJ0_length_8abf5 ∈ GW := gw_k tk9_1 42 (by decide +kernel) rfl
theorem w207 : Cond.methodLink RX9 37 yJ0_charAt_5068e ∈ GW := gw_k tk9_1 52 (by decide +kernel) rfl
theorem dk9_dX6_init_0_0 : dOk cX6_init [(0, .aload_n 0, 1), (1, .invokespecial 3, 3), (4, .aload_n 0, 1), (5, .iload_n 1, 1), (6, .ifCond .le 7, 3), (9, .iload_n 1, 1), (10, .goto 4, 3), (14, .newarray .long, 2), (16, .putfield 9, 3), (19, .return_, 1)] = true := by decide +kernel
theorem dX6_init_0 : decode cX6_init 0 = .ok (.aload_n 0, 1) := dr9 dk9_dX6_init_0_0 0 (0, .aload_n 0, 1) rfl
theorem dX6_init_1 : decode cX6_init 1 = .ok (.invokespecial 3, 3) := dr9 dk9_dX6_init_0_0 1 (1, .invokespecial 3, 3) rfl
theorem dX6_init_4 : decode cX6_init 4 = .ok (.aload_n 0, 1) := dr9 dk9_dX6_init_0_0 2 (4, .aload_n 0, 1) rfl
theorem dX6_init_5 : decode cX6_init 5 = .ok (.iload_n 1, 1) := dr9 dk9_dX6_init_0_0 3 (5, .iload_n 1, 1) rfl
theorem dX6_init_6 : decode cX6_init 6 = .ok (.ifCond .le 7, 3) := dr9 dk9_dX6_init_0_0 4 (6, .ifCond .le 7, 3) rfl
theorem dX6_init_9 : decode cX6_init 9 = .ok (.iload_n 1, 1) := dr9 dk9_dX6_init_0_0 5 (9, .iload_n 1, 1) rfl
theorem dX6_init_10 : decode cX6_init 10 = .ok (.goto 4, 3) := dr9 dk9_dX6_init_0_0 6 (10, .goto 4, 3) rfl
theorem dX6_init_14 : decode cX6_init 14 = .ok (.newarray .long, 2) := dr9 dk9_dX6_init_0_0 7 (14, .newarray .long, 2) rfl
theorem dX6_init_16 : decode cX6_init 16 = .ok (.putfield 9, 3) := dr9 dk9_dX6_init_0_0 8 (16, .putfield 9, 3) rfl
theorem dX6_init_19 : decode cX6_init 19 = .ok (.return_, 1) := dr9 dk9_dX6_init_0_0 9 (19, .return_, 1) rfl
theorem dk9_dX10_init_0_0 : dOk cX10_init [(0, .aload_n 0, 1), (1, .invokespecial 1, 3), (4, .return_, 1)] = true := by decide +kernel
theorem dX10_init_0 : decode cX10_init 0 = .ok (.aload_n 0, 1) := dr9 dk9_dX10_init_0_0 0 (0, .aload_n 0, 1) rfl
theorem dX10_init_1 : decode cX10_init 1 = .ok (.invokespecial 1, 3) := dr9 dk9_dX10_init_0_0 1 (1, .invokespecial 1, 3) rfl
theorem dX10_init_4 : decode cX10_init 4 = .ok (.return_, 1) := dr9 dk9_dX10_init_0_0 2 (4, .return_, 1) rfl
theorem dk9_dX3_init_0_0 : dOk cX3_init [(0, .aload_n 0, 1), (1, .invokespecial 3, 3), (4, .aload_n 0, 1), (5, .bipush 8, 2), (7, .newarray .int, 2), (9, .putfield 9, 3), (12, .aload_n 0, 1), (13, .bipush 8, 2), (15, .newarray .int, 2), (17, .putfield 15, 3), (20, .aload_n 0, 1), (21, .bipush 8, 2), (23, .newarray .int, 2), (25, .putfield 18, 3), (28, .aload_n 0, 1), (29, .bipush 20, 2), (31, .newarray .int, 2), (33, .putfield 21, 3), (36, .return_, 1)] = true := by decide +kernel
theorem dX3_init_0 : decode cX3_init 0 = .ok (.aload_n 0, 1) := dr9 dk9_dX3_init_0_0 0 (0, .aload_n 0, 1) rfl
theorem dX3_init_1 : decode cX3_init 1 = .ok (.invokespecial 3, 3) := dr9 dk9_dX3_init_0_0 1 (1, .invokespecial 3, 3) rfl
theorem dX3_init_4 : decode cX3_init 4 = .ok (.aload_n 0, 1) := dr9 dk9_dX3_init_0_0 2 (4, .aload_n 0, 1) rfl
theorem dX3_init_5 : decode cX3_init 5 = .ok (.bipush 8, 2) := dr9 dk9_dX3_init_0_0 3 (5, .bipush 8, 2) rfl
theorem dX3_init_7 : decode cX3_init 7 = .ok (.newarray .int, 2) := dr9 dk9_dX3_init_0_0 4 (7, .newarray .int, 2) rfl
theorem dX3_init_9 : decode cX3_init 9 = .ok (.putfield 9, 3) := dr9 dk9_dX3_init_0_0 5 (9, .putfield 9, 3) rfl
theorem dX3_init_12 : decode cX3_init 12 = .ok (.aload_n 0, 1) := dr9 dk9_dX3_init_0_0 6 (12, .aload_n 0, 1) rfl
theorem dX3_init_13 : decode cX3_init 13 = .ok (.bipush 8, 2) := dr9 dk9_dX3_init_0_0 7 (13, .bipush 8, 2) rfl
theorem dX3_init_15 : decode cX3_init 15 = .ok (.newarray .int, 2) := dr9 dk9_dX3_init_0_0 8 (15, .newarray .int, 2) rfl
theorem dX3_init_17 : decode cX3_init 17 = .ok (.putfield 15, 3) := dr9 dk9_dX3_init_0_0 9 (17, .putfield 15, 3) rfl
theorem dX3_init_20 : decode cX3_init 20 = .ok (.aload_n 0, 1) := dr9 dk9_dX3_init_0_0 10 (20, .aload_n 0, 1) rfl
theorem dX3_init_21 : decode cX3_init 21 = .ok (.bipush 8, 2) := dr9 dk9_dX3_init_0_0 11 (21, .bipush 8, 2) rfl
theorem dX3_init_23 : decode cX3_init 23 = .ok (.newarray .int, 2) := dr9 dk9_dX3_init_0_0 12 (23, .newarray .int, 2) rfl
theorem dX3_init_25 : decode cX3_init 25 = .ok (.putfield 18, 3) := dr9 dk9_dX3_init_0_0 13 (25, .putfield 18, 3) rfl
theorem dX3_init_28 : decode cX3_init 28 = .ok (.aload_n 0, 1) := dr9 dk9_dX3_init_0_0 14 (28, .aload_n 0, 1) rfl
theorem dX3_init_29 : decode cX3_init 29 = .ok (.bipush 20, 2) := dr9 dk9_dX3_init_0_0 15 (29, .bipush 20, 2) rfl
theorem dX3_init_31 : decode cX3_init 31 = .ok (.newarray .int, 2) := dr9 dk9_dX3_init_0_0 16 (31, .newarray .int, 2) rfl
theorem dX3_init_33 : decode cX3_init 33 = .ok (.putfield 21, 3) := dr9 dk9_dX3_init_0_0 17 (33, .putfield 21, 3) rfl
theorem dX3_init_36 : decode cX3_init 36 = .ok (.return_, 1) := dr9 dk9_dX3_init_0_0 18 (36, .return_, 1) rfl
theorem dk9_dX7_init_0_0 : dOk cX7_init [(0, .aload_n 0, 1), (1, .invokespecial 3, 3), (4, .aload_n 0, 1), (5, .bipush 100, 2), (7, .newarray .int, 2), (9, .putfield 9, 3), (12, .aload_n 0, 1), (13, .bipush 100, 2), (15, .newarray .int, 2), (17, .putfield 15, 3), (20, .aload_n 0, 1), (21, .bipush 100, 2), (23, .newarray .int, 2), (25, .putfield 18, 3), (28, .aload_n 0, 1), (29, .sipush 300, 3), (32, .newarray .int, 2), (34, .putfield 21, 3), (37, .aload_n 0, 1), (38, .sipush 300, 3), (41, .newarray .int, 2), (43, .putfield 24, 3), (46, .return_, 1)] = true := by decide +kernel
theorem dX7_init_0 : decode cX7_init 0 = .ok (.aload_n 0, 1) := dr9 dk9_dX7_init_0_0 0 (0, .aload_n 0, 1) rfl
theorem dX7_init_1 : decode cX7_init 1 = .ok (.invokespecial 3, 3) := dr9 dk9_dX7_init_0_0 1 (1, .invokespecial 3, 3) rfl
theorem dX7_init_4 : decode cX7_init 4 = .ok (.aload_n 0, 1) := dr9 dk9_dX7_init_0_0 2 (4, .aload_n 0, 1) rfl
theorem dX7_init_5 : decode cX7_init 5 = .ok (.bipush 100, 2) := dr9 dk9_dX7_init_0_0 3 (5, .bipush 100, 2) rfl
theorem dX7_init_7 : decode cX7_init 7 = .ok (.newarray .int, 2) := dr9 dk9_dX7_init_0_0 4 (7, .newarray .int, 2) rfl
theorem dX7_init_9 : decode cX7_init 9 = .ok (.putfield 9, 3) := dr9 dk9_dX7_init_0_0 5 (9, .putfield 9, 3) rfl
theorem dX7_init_12 : decode cX7_init 12 = .ok (.aload_n 0, 1) := dr9 dk9_dX7_init_0_0 6 (12, .aload_n 0, 1) rfl
theorem dX7_init_13 : decode cX7_init 13 = .ok (.bipush 100, 2) := dr9 dk9_dX7_init_0_0 7 (13, .bipush 100, 2) rfl
theorem dX7_init_15 : decode cX7_init 15 = .ok (.newarray .int, 2) := dr9 dk9_dX7_init_0_0 8 (15, .newarray .int, 2) rfl
theorem dX7_init_17 : decode cX7_init 17 = .ok (.putfield 15, 3) := dr9 dk9_dX7_init_0_0 9 (17, .putfield 15, 3) rfl
theorem dX7_init_20 : decode cX7_init 20 = .ok (.aload_n 0, 1) := dr9 dk9_dX7_init_0_0 10 (20, .aload_n 0, 1) rfl
theorem dX7_init_21 : decode cX7_init 21 = .ok (.bipush 100, 2) := dr9 dk9_dX7_init_0_0 11 (21, .bipush 100, 2) rfl
theorem dX7_init_23 : decode cX7_init 23 = .ok (.newarray .int, 2) := dr9 dk9_dX7_init_0_0 12 (23, .newarray .int, 2) rfl
theorem dX7_init_25 : decode cX7_init 25 = .ok (.putfield 18, 3) := dr9 dk9_dX7_init_0_0 13 (25, .putfield 18, 3) rfl
theorem dX7_init_28 : decode cX7_init 28 = .ok (.aload_n 0, 1) := dr9 dk9_dX7_init_0_0 14 (28, .aload_n 0, 1) rfl
theorem dX7_init_29 : decode cX7_init 29 = .ok (.sipush 300, 3) := dr9 dk9_dX7_init_0_0 15 (29, .sipush 300, 3) rfl
theorem dX7_init_32 : decode cX7_init 32 = .ok (.newarray .int, 2) := dr9 dk9_dX7_init_0_0 16 (32, .newarray .int, 2) rfl
theorem dX7_init_34 : decode cX7_init 34 = .ok (.putfield 21, 3) := dr9 dk9_dX7_init_0_0 17 (34, .putfield 21, 3) rfl
theorem dX7_init_37 : decode cX7_init 37 = .ok (.aload_n 0, 1) := dr9 dk9_dX7_init_0_0 18 (37, .aload_n 0, 1) rfl
theorem dX7_init_38 : decode cX7_init 38 = .ok (.sipush 300, 3) := dr9 dk9_dX7_init_0_0 19 (38, .sipush 300, 3) rfl
theorem dX7_init_41 : decode cX7_init 41 = .ok (.newarray .int, 2) := dr9 dk9_dX7_init_0_0 20 (41, .newarray .int, 2) rfl
theorem dX7_init_43 : decode cX7_init 43 = .ok (.putfield 24, 3) := dr9 dk9_dX7_init_0_0 21 (43, .putfield 24, 3) rfl
theorem dX7_init_46 : decode cX7_init 46 = .ok (.return_, 1) := dr9 dk9_dX7_init_0_0 22 (46, .return_, 1) rfl
theorem dk9_dX2_init_0_0 : dOk cX2_init [(0, .aload_n 0, 1), (1, .invokespecial 3, 3), (4, .aload_n 0, 1), (5, .bipush 100, 2), (7, .newarray .int, 2), (9, .putfield 9, 3), (12, .aload_n 0, 1), (13, .bipush 100, 2), (15, .newarray .int, 2), (17, .putfield 15, 3), (20, .aload_n 0, 1), (21, .bipush 100, 2), (23, .newarray .int, 2), (25, .putfield 18, 3), (28, .aload_n 0, 1), (29, .sipush 2400, 3), (32, .newarray .int, 2), (34, .putfield 21, 3), (37, .aload_n 0, 1), (38, .bipush 24, 2), (40, .newarray .int, 2), (42, .putfield 24, 3), (45, .aload_n 0, 1), (46, .bipush 24, 2)] = true ∧ dOk cX2_init [(48, .newarray .int, 2), (50, .putfield 27, 3), (53, .return_, 1)] = true := by decide +kernel
theorem dX2_init_0 : decode cX2_init 0 = .ok (.aload_n 0, 1) := dr9 dk9_dX2_init_0_0.1 0 (0, .aload_n 0, 1) rfl
theorem dX2_init_1 : decode cX2_init 1 = .ok (.invokespecial 3, 3) := dr9 dk9_dX2_init_0_0.1 1 (1, .invokespecial 3, 3) rfl
theorem dX2_init_4 : decode cX2_init 4 = .ok (.aload_n 0, 1) := dr9 dk9_dX2_init_0_0.1 2 (4, .aload_n 0, 1) rfl
theorem dX2_init_5 : decode cX2_init 5 = .ok (.bipush 100, 2) := dr9 dk9_dX2_init_0_0.1 3 (5, .bipush 100, 2) rfl
theorem dX2_init_7 : decode cX2_init 7 = .ok (.newarray .int, 2) := dr9 dk9_dX2_init_0_0.1 4 (7, .newarray .int, 2) rfl
theorem dX2_init_9 : decode cX2_init 9 = .ok (.putfield 9, 3) := dr9 dk9_dX2_init_0_0.1 5 (9, .putfield 9, 3) rfl
theorem dX2_init_12 : decode cX2_init 12 = .ok (.aload_n 0, 1) := dr9 dk9_dX2_init_0_0.1 6 (12, .aload_n 0, 1) rfl
theorem dX2_init_13 : decode cX2_init 13 = .ok (.bipush 100, 2) := dr9 dk9_dX2_init_0_0.1 7 (13, .bipush 100, 2) rfl
theorem dX2_init_15 : decode cX2_init 15 = .ok (.newarray .int, 2) := dr9 dk9_dX2_init_0_0.1 8 (15, .newarray .int, 2) rfl
theorem dX2_init_17 : decode cX2_init 17 = .ok (.putfield 15, 3) := dr9 dk9_dX2_init_0_0.1 9 (17, .putfield 15, 3) rfl
theorem dX2_init_20 : decode cX2_init 20 = .ok (.aload_n 0, 1) := dr9 dk9_dX2_init_0_0.1 10 (20, .aload_n 0, 1) rfl
theorem dX2_init_21 : decode cX2_init 21 = .ok (.bipush 100, 2) := dr9 dk9_dX2_init_0_0.1 11 (21, .bipush 100, 2) rfl
theorem dX2_init_23 : decode cX2_init 23 = .ok (.newarray .int, 2) := dr9 dk9_dX2_init_0_0.1 12 (23, .newarray .int, 2) rfl
theorem dX2_init_25 : decode cX2_init 25 = .ok (.putfield 18, 3) := dr9 dk9_dX2_init_0_0.1 13 (25, .putfield 18, 3) rfl
theorem dX2_init_28 : decode cX2_init 28 = .ok (.aload_n 0, 1) := dr9 dk9_dX2_init_0_0.1 14 (28, .aload_n 0, 1) rfl
theorem dX2_init_29 : decode cX2_init 29 = .ok (.sipush 2400, 3) := dr9 dk9_dX2_init_0_0.1 15 (29, .sipush 2400, 3) rfl
theorem dX2_init_32 : decode cX2_init 32 = .ok (.newarray .int, 2) := dr9 dk9_dX2_init_0_0.1 16 (32, .newarray .int, 2) rfl
theorem dX2_init_34 : decode cX2_init 34 = .ok (.putfield 21, 3) := dr9 dk9_dX2_init_0_0.1 17 (34, .putfield 21, 3) rfl
theorem dX2_init_37 : decode cX2_init 37 = .ok (.aload_n 0, 1) := dr9 dk9_dX2_init_0_0.1 18 (37, .aload_n 0, 1) rfl
theorem dX2_init_38 : decode cX2_init 38 = .ok (.bipush 24, 2) := dr9 dk9_dX2_init_0_0.1 19 (38, .bipush 24, 2) rfl
theorem dX2_init_40 : decode cX2_init 40 = .ok (.newarray .int, 2) := dr9 dk9_dX2_init_0_0.1 20 (40, .newarray .int, 2) rfl
theorem dX2_init_42 : decode cX2_init 42 = .ok (.putfield 24, 3) := dr9 dk9_dX2_init_0_0.1 21 (42, .putfield 24, 3) rfl
theorem dX2_init_45 : decode cX2_init 45 = .ok (.aload_n 0, 1) := dr9 dk9_dX2_init_0_0.1 22 (45, .aload_n 0, 1) rfl
theorem dX2_init_46 : decode cX2_init 46 = .ok (.bipush 24, 2) := dr9 dk9_dX2_init_0_0.1 23 (46, .bipush 24, 2) rfl
theorem dX2_init_48 : decode cX2_init 48 = .ok (.newarray .int, 2) := dr9 dk9_dX2_init_0_0.2 0 (48, .newarray .int, 2) rfl
theorem dX2_init_50 : decode cX2_init 50 = .ok (.putfield 27, 3) := dr9 dk9_dX2_init_0_0.2 1 (50, .putfield 27, 3) rfl
theorem dX2_init_53 : decode cX2_init 53 = .ok (.return_, 1) := dr9 dk9_dX2_init_0_0.2 2 (53, .return_, 1) rfl
theorem dk9_dX1_init_0_0 : dOk cX1_init [(0, .aload_n 0, 1), (1, .invokespecial 3, 3), (4, .aload_n 0, 1), (5, .aload_n 1, 1), (6, .putfield 9, 3), (9, .return_, 1)] = true := by decide +kernel
theorem dX1_init_0 : decode cX1_init 0 = .ok (.aload_n 0, 1) := dr9 dk9_dX1_init_0_0 0 (0, .aload_n 0, 1) rfl
theorem dX1_init_1 : decode cX1_init 1 = .ok (.invokespecial 3, 3) := dr9 dk9_dX1_init_0_0 1 (1, .invokespecial 3, 3) rfl
theorem dX1_init_4 : decode cX1_init 4 = .ok (.aload_n 0, 1) := dr9 dk9_dX1_init_0_0 2 (4, .aload_n 0, 1) rfl
theorem dX1_init_5 : decode cX1_init 5 = .ok (.aload_n 1, 1) := dr9 dk9_dX1_init_0_0 3 (5, .aload_n 1, 1) rfl
theorem dX1_init_6 : decode cX1_init 6 = .ok (.putfield 9, 3) := dr9 dk9_dX1_init_0_0 4 (6, .putfield 9, 3) rfl
theorem dX1_init_9 : decode cX1_init 9 = .ok (.return_, 1) := dr9 dk9_dX1_init_0_0 5 (9, .return_, 1) rfl
theorem dk9_dX5_init_0_0 : dOk cX5_init [(0, .aload_n 0, 1), (1, .invokespecial 3, 3), (4, .aload_n 0, 1), (5, .sipush 400, 3), (8, .anewarray 11, 3), (11, .putfield 13, 3), (14, .aload_n 0, 1), (15, .sipush 2048, 3), (18, .newarray .int, 2), (20, .putfield 17, 3), (23, .aload_n 0, 1), (24, .sipush 300, 3), (27, .newarray .int, 2), (29, .putfield 21, 3), (32, .aload_n 0, 1), (33, .aload_n 1, 1), (34, .putfield 24, 3), (37, .aload_n 0, 1), (38, .aload_n 2, 1), (39, .putfield 28, 3), (42, .aload_n 0, 1), (43, .aload_n 3, 1), (44, .putfield 32, 3), (47, .return_, 1)] = true := by decide +kernel
theorem dX5_init_0 : decode cX5_init 0 = .ok (.aload_n 0, 1) := dr9 dk9_dX5_init_0_0 0 (0, .aload_n 0, 1) rfl
theorem dX5_init_1 : decode cX5_init 1 = .ok (.invokespecial 3, 3) := dr9 dk9_dX5_init_0_0 1 (1, .invokespecial 3, 3) rfl
theorem dX5_init_4 : decode cX5_init 4 = .ok (.aload_n 0, 1) := dr9 dk9_dX5_init_0_0 2 (4, .aload_n 0, 1) rfl
theorem dX5_init_5 : decode cX5_init 5 = .ok (.sipush 400, 3) := dr9 dk9_dX5_init_0_0 3 (5, .sipush 400, 3) rfl
theorem dX5_init_8 : decode cX5_init 8 = .ok (.anewarray 11, 3) := dr9 dk9_dX5_init_0_0 4 (8, .anewarray 11, 3) rfl
theorem dX5_init_11 : decode cX5_init 11 = .ok (.putfield 13, 3) := dr9 dk9_dX5_init_0_0 5 (11, .putfield 13, 3) rfl
theorem dX5_init_14 : decode cX5_init 14 = .ok (.aload_n 0, 1) := dr9 dk9_dX5_init_0_0 6 (14, .aload_n 0, 1) rfl
theorem dX5_init_15 : decode cX5_init 15 = .ok (.sipush 2048, 3) := dr9 dk9_dX5_init_0_0 7 (15, .sipush 2048, 3) rfl
theorem dX5_init_18 : decode cX5_init 18 = .ok (.newarray .int, 2) := dr9 dk9_dX5_init_0_0 8 (18, .newarray .int, 2) rfl
theorem dX5_init_20 : decode cX5_init 20 = .ok (.putfield 17, 3) := dr9 dk9_dX5_init_0_0 9 (20, .putfield 17, 3) rfl
theorem dX5_init_23 : decode cX5_init 23 = .ok (.aload_n 0, 1) := dr9 dk9_dX5_init_0_0 10 (23, .aload_n 0, 1) rfl
theorem dX5_init_24 : decode cX5_init 24 = .ok (.sipush 300, 3) := dr9 dk9_dX5_init_0_0 11 (24, .sipush 300, 3) rfl
theorem dX5_init_27 : decode cX5_init 27 = .ok (.newarray .int, 2) := dr9 dk9_dX5_init_0_0 12 (27, .newarray .int, 2) rfl
theorem dX5_init_29 : decode cX5_init 29 = .ok (.putfield 21, 3) := dr9 dk9_dX5_init_0_0 13 (29, .putfield 21, 3) rfl
theorem dX5_init_32 : decode cX5_init 32 = .ok (.aload_n 0, 1) := dr9 dk9_dX5_init_0_0 14 (32, .aload_n 0, 1) rfl
theorem dX5_init_33 : decode cX5_init 33 = .ok (.aload_n 1, 1) := dr9 dk9_dX5_init_0_0 15 (33, .aload_n 1, 1) rfl
theorem dX5_init_34 : decode cX5_init 34 = .ok (.putfield 24, 3) := dr9 dk9_dX5_init_0_0 16 (34, .putfield 24, 3) rfl
theorem dX5_init_37 : decode cX5_init 37 = .ok (.aload_n 0, 1) := dr9 dk9_dX5_init_0_0 17 (37, .aload_n 0, 1) rfl
theorem dX5_init_38 : decode cX5_init 38 = .ok (.aload_n 2, 1) := dr9 dk9_dX5_init_0_0 18 (38, .aload_n 2, 1) rfl
theorem dX5_init_39 : decode cX5_init 39 = .ok (.putfield 28, 3) := dr9 dk9_dX5_init_0_0 19 (39, .putfield 28, 3) rfl
theorem dX5_init_42 : decode cX5_init 42 = .ok (.aload_n 0, 1) := dr9 dk9_dX5_init_0_0 20 (42, .aload_n 0, 1) rfl
theorem dX5_init_43 : decode cX5_init 43 = .ok (.aload_n 3, 1) := dr9 dk9_dX5_init_0_0 21 (43, .aload_n 3, 1) rfl
theorem dX5_init_44 : decode cX5_init 44 = .ok (.putfield 32, 3) := dr9 dk9_dX5_init_0_0 22 (44, .putfield 32, 3) rfl
theorem dX5_init_47 : decode cX5_init 47 = .ok (.return_, 1) := dr9 dk9_dX5_init_0_0 23 (47, .return_, 1) rfl
theorem dk9_dX8_init_0_0 : dOk cX8_init [(0, .aload_n 0, 1), (1, .invokespecial 3, 3), (4, .aload_n 0, 1), (5, .bipush 40, 2), (7, .newarray .int, 2), (9, .putfield 9, 3), (12, .aload_n 0, 1), (13, .bipush 40, 2), (15, .newarray .int, 2), (17, .putfield 15, 3), (20, .aload_n 0, 1), (21, .bipush 40, 2), (23, .newarray .boolean, 2), (25, .putfield 18, 3), (28, .aload_n 0, 1), (29, .bipush 40, 2), (31, .newarray .int, 2), (33, .putfield 22, 3), (36, .aload_n 0, 1), (37, .sipush 960, 3), (40, .newarray .int, 2), (42, .putfield 25, 3), (45, .aload_n 0, 1), (46, .sipush 300, 3)] = true ∧ dOk cX8_init [(49, .newarray .int, 2), (51, .putfield 28, 3), (54, .aload_n 0, 1), (55, .sipush 300, 3), (58, .newarray .int, 2), (60, .putfield 31, 3), (63, .aload_n 0, 1), (64, .sipush 300, 3), (67, .newarray .int, 2), (69, .putfield 34, 3), (72, .aload_n 0, 1), (73, .sipush 300, 3), (76, .newarray .int, 2), (78, .putfield 37, 3), (81, .aload_n 0, 1), (82, .sipush 2400, 3), (85, .newarray .int, 2), (87, .putfield 40, 3), (90, .aload_n 0, 1), (91, .sipush 512, 3), (94, .newarray .int, 2), (96, .putfield 43, 3), (99, .aload_n 0, 1), (100, .sipush 512, 3)] = true ∧ dOk cX8_init [(103, .newarray .int, 2), (105, .putfield 46, 3), (108, .aload_n 0, 1), (109, .getfield 25, 3), (112, .iconst (-1), 1), (113, .invokestatic 49, 3), (116, .aload_n 0, 1), (117, .getfield 18, 3), (120, .iconst 0, 1), (121, .iconst 1, 1), (122, .bastore, 1), (123, .aload_n 0, 1), (124, .iconst 1, 1), (125, .putfield 55, 3), (128, .return_, 1)] = true := by decide +kernel
theorem dX8_init_0 : decode cX8_init 0 = .ok (.aload_n 0, 1) := dr9 dk9_dX8_init_0_0.1 0 (0, .aload_n 0, 1) rfl
theorem dX8_init_1 : decode cX8_init 1 = .ok (.invokespecial 3, 3) := dr9 dk9_dX8_init_0_0.1 1 (1, .invokespecial 3, 3) rfl
theorem dX8_init_4 : decode cX8_init 4 = .ok (.aload_n 0, 1) := dr9 dk9_dX8_init_0_0.1 2 (4, .aload_n 0, 1) rfl
theorem dX8_init_5 : decode cX8_init 5 = .ok (.bipush 40, 2) := dr9 dk9_dX8_init_0_0.1 3 (5, .bipush 40, 2) rfl
theorem dX8_init_7 : decode cX8_init 7 = .ok (.newarray .int, 2) := dr9 dk9_dX8_init_0_0.1 4 (7, .newarray .int, 2) rfl
theorem dX8_init_9 : decode cX8_init 9 = .ok (.putfield 9, 3) := dr9 dk9_dX8_init_0_0.1 5 (9, .putfield 9, 3) rfl
theorem dX8_init_12 : decode cX8_init 12 = .ok (.aload_n 0, 1) := dr9 dk9_dX8_init_0_0.1 6 (12, .aload_n 0, 1) rfl
theorem dX8_init_13 : decode cX8_init 13 = .ok (.bipush 40, 2) := dr9 dk9_dX8_init_0_0.1 7 (13, .bipush 40, 2) rfl
theorem dX8_init_15 : decode cX8_init 15 = .ok (.newarray .int, 2) := dr9 dk9_dX8_init_0_0.1 8 (15, .newarray .int, 2) rfl
theorem dX8_init_17 : decode cX8_init 17 = .ok (.putfield 15, 3) := dr9 dk9_dX8_init_0_0.1 9 (17, .putfield 15, 3) rfl
theorem dX8_init_20 : decode cX8_init 20 = .ok (.aload_n 0, 1) := dr9 dk9_dX8_init_0_0.1 10 (20, .aload_n 0, 1) rfl
theorem dX8_init_21 : decode cX8_init 21 = .ok (.bipush 40, 2) := dr9 dk9_dX8_init_0_0.1 11 (21, .bipush 40, 2) rfl
theorem dX8_init_23 : decode cX8_init 23 = .ok (.newarray .boolean, 2) := dr9 dk9_dX8_init_0_0.1 12 (23, .newarray .boolean, 2) rfl
theorem dX8_init_25 : decode cX8_init 25 = .ok (.putfield 18, 3) := dr9 dk9_dX8_init_0_0.1 13 (25, .putfield 18, 3) rfl
theorem dX8_init_28 : decode cX8_init 28 = .ok (.aload_n 0, 1) := dr9 dk9_dX8_init_0_0.1 14 (28, .aload_n 0, 1) rfl
theorem dX8_init_29 : decode cX8_init 29 = .ok (.bipush 40, 2) := dr9 dk9_dX8_init_0_0.1 15 (29, .bipush 40, 2) rfl
theorem dX8_init_31 : decode cX8_init 31 = .ok (.newarray .int, 2) := dr9 dk9_dX8_init_0_0.1 16 (31, .newarray .int, 2) rfl
theorem dX8_init_33 : decode cX8_init 33 = .ok (.putfield 22, 3) := dr9 dk9_dX8_init_0_0.1 17 (33, .putfield 22, 3) rfl
theorem dX8_init_36 : decode cX8_init 36 = .ok (.aload_n 0, 1) := dr9 dk9_dX8_init_0_0.1 18 (36, .aload_n 0, 1) rfl
theorem dX8_init_37 : decode cX8_init 37 = .ok (.sipush 960, 3) := dr9 dk9_dX8_init_0_0.1 19 (37, .sipush 960, 3) rfl
theorem dX8_init_40 : decode cX8_init 40 = .ok (.newarray .int, 2) := dr9 dk9_dX8_init_0_0.1 20 (40, .newarray .int, 2) rfl
theorem dX8_init_42 : decode cX8_init 42 = .ok (.putfield 25, 3) := dr9 dk9_dX8_init_0_0.1 21 (42, .putfield 25, 3) rfl
theorem dX8_init_45 : decode cX8_init 45 = .ok (.aload_n 0, 1) := dr9 dk9_dX8_init_0_0.1 22 (45, .aload_n 0, 1) rfl
theorem dX8_init_46 : decode cX8_init 46 = .ok (.sipush 300, 3) := dr9 dk9_dX8_init_0_0.1 23 (46, .sipush 300, 3) rfl
theorem dX8_init_49 : decode cX8_init 49 = .ok (.newarray .int, 2) := dr9 dk9_dX8_init_0_0.2.1 0 (49, .newarray .int, 2) rfl
theorem dX8_init_51 : decode cX8_init 51 = .ok (.putfield 28, 3) := dr9 dk9_dX8_init_0_0.2.1 1 (51, .putfield 28, 3) rfl
theorem dX8_init_54 : decode cX8_init 54 = .ok (.aload_n 0, 1) := dr9 dk9_dX8_init_0_0.2.1 2 (54, .aload_n 0, 1) rfl
theorem dX8_init_55 : decode cX8_init 55 = .ok (.sipush 300, 3) := dr9 dk9_dX8_init_0_0.2.1 3 (55, .sipush 300, 3) rfl
theorem dX8_init_58 : decode cX8_init 58 = .ok (.newarray .int, 2) := dr9 dk9_dX8_init_0_0.2.1 4 (58, .newarray .int, 2) rfl
theorem dX8_init_60 : decode cX8_init 60 = .ok (.putfield 31, 3) := dr9 dk9_dX8_init_0_0.2.1 5 (60, .putfield 31, 3) rfl
theorem dX8_init_63 : decode cX8_init 63 = .ok (.aload_n 0, 1) := dr9 dk9_dX8_init_0_0.2.1 6 (63, .aload_n 0, 1) rfl
theorem dX8_init_64 : decode cX8_init 64 = .ok (.sipush 300, 3) := dr9 dk9_dX8_init_0_0.2.1 7 (64, .sipush 300, 3) rfl
theorem dX8_init_67 : decode cX8_init 67 = .ok (.newarray .int, 2) := dr9 dk9_dX8_init_0_0.2.1 8 (67, .newarray .int, 2) rfl
theorem dX8_init_69 : decode cX8_init 69 = .ok (.putfield 34, 3) := dr9 dk9_dX8_init_0_0.2.1 9 (69, .putfield 34, 3) rfl
theorem dX8_init_72 : decode cX8_init 72 = .ok (.aload_n 0, 1) := dr9 dk9_dX8_init_0_0.2.1 10 (72, .aload_n 0, 1) rfl
theorem dX8_init_73 : decode cX8_init 73 = .ok (.sipush 300, 3) := dr9 dk9_dX8_init_0_0.2.1 11 (73, .sipush 300, 3) rfl
theorem dX8_init_76 : decode cX8_init 76 = .ok (.newarray .int, 2) := dr9 dk9_dX8_init_0_0.2.1 12 (76, .newarray .int, 2) rfl
theorem dX8_init_78 : decode cX8_init 78 = .ok (.putfield 37, 3) := dr9 dk9_dX8_init_0_0.2.1 13 (78, .putfield 37, 3) rfl
theorem dX8_init_81 : decode cX8_init 81 = .ok (.aload_n 0, 1) := dr9 dk9_dX8_init_0_0.2.1 14 (81, .aload_n 0, 1) rfl
theorem dX8_init_82 : decode cX8_init 82 = .ok (.sipush 2400, 3) := dr9 dk9_dX8_init_0_0.2.1 15 (82, .sipush 2400, 3) rfl
theorem dX8_init_85 : decode cX8_init 85 = .ok (.newarray .int, 2) := dr9 dk9_dX8_init_0_0.2.1 16 (85, .newarray .int, 2) rfl
theorem dX8_init_87 : decode cX8_init 87 = .ok (.putfield 40, 3) := dr9 dk9_dX8_init_0_0.2.1 17 (87, .putfield 40, 3) rfl
theorem dX8_init_90 : decode cX8_init 90 = .ok (.aload_n 0, 1) := dr9 dk9_dX8_init_0_0.2.1 18 (90, .aload_n 0, 1) rfl
theorem dX8_init_91 : decode cX8_init 91 = .ok (.sipush 512, 3) := dr9 dk9_dX8_init_0_0.2.1 19 (91, .sipush 512, 3) rfl
theorem dX8_init_94 : decode cX8_init 94 = .ok (.newarray .int, 2) := dr9 dk9_dX8_init_0_0.2.1 20 (94, .newarray .int, 2) rfl
theorem dX8_init_96 : decode cX8_init 96 = .ok (.putfield 43, 3) := dr9 dk9_dX8_init_0_0.2.1 21 (96, .putfield 43, 3) rfl
theorem dX8_init_99 : decode cX8_init 99 = .ok (.aload_n 0, 1) := dr9 dk9_dX8_init_0_0.2.1 22 (99, .aload_n 0, 1) rfl
theorem dX8_init_100 : decode cX8_init 100 = .ok (.sipush 512, 3) := dr9 dk9_dX8_init_0_0.2.1 23 (100, .sipush 512, 3) rfl
theorem dX8_init_103 : decode cX8_init 103 = .ok (.newarray .int, 2) := dr9 dk9_dX8_init_0_0.2.2 0 (103, .newarray .int, 2) rfl
theorem dX8_init_105 : decode cX8_init 105 = .ok (.putfield 46, 3) := dr9 dk9_dX8_init_0_0.2.2 1 (105, .putfield 46, 3) rfl
theorem dX8_init_108 : decode cX8_init 108 = .ok (.aload_n 0, 1) := dr9 dk9_dX8_init_0_0.2.2 2 (108, .aload_n 0, 1) rfl
theorem dX8_init_109 : decode cX8_init 109 = .ok (.getfield 25, 3) := dr9 dk9_dX8_init_0_0.2.2 3 (109, .getfield 25, 3) rfl
theorem dX8_init_112 : decode cX8_init 112 = .ok (.iconst (-1), 1) := dr9 dk9_dX8_init_0_0.2.2 4 (112, .iconst (-1), 1) rfl
theorem dX8_init_113 : decode cX8_init 113 = .ok (.invokestatic 49, 3) := dr9 dk9_dX8_init_0_0.2.2 5 (113, .invokestatic 49, 3) rfl
theorem dX8_init_116 : decode cX8_init 116 = .ok (.aload_n 0, 1) := dr9 dk9_dX8_init_0_0.2.2 6 (116, .aload_n 0, 1) rfl
theorem dX8_init_117 : decode cX8_init 117 = .ok (.getfield 18, 3) := dr9 dk9_dX8_init_0_0.2.2 7 (117, .getfield 18, 3) rfl
theorem dX8_init_120 : decode cX8_init 120 = .ok (.iconst 0, 1) := dr9 dk9_dX8_init_0_0.2.2 8 (120, .iconst 0, 1) rfl
theorem dX8_init_121 : decode cX8_init 121 = .ok (.iconst 1, 1) := dr9 dk9_dX8_init_0_0.2.2 9 (121, .iconst 1, 1) rfl
theorem dX8_init_122 : decode cX8_init 122 = .ok (.bastore, 1) := dr9 dk9_dX8_init_0_0.2.2 10 (122, .bastore, 1) rfl
theorem dX8_init_123 : decode cX8_init 123 = .ok (.aload_n 0, 1) := dr9 dk9_dX8_init_0_0.2.2 11 (123, .aload_n 0, 1) rfl
theorem dX8_init_124 : decode cX8_init 124 = .ok (.iconst 1, 1) := dr9 dk9_dX8_init_0_0.2.2 12 (124, .iconst 1, 1) rfl
theorem dX8_init_125 : decode cX8_init 125 = .ok (.putfield 55, 3) := dr9 dk9_dX8_init_0_0.2.2 13 (125, .putfield 55, 3) rfl
theorem dX8_init_128 : decode cX8_init 128 = .ok (.return_, 1) := dr9 dk9_dX8_init_0_0.2.2 14 (128, .return_, 1) rfl
theorem dk9_dX9_init_0_0 : dOk cX9_init [(0, .aload_n 0, 1), (1, .invokespecial 3, 3), (4, .aload_n 0, 1), (5, .sipush 4000, 3), (8, .newarray .byte, 2), (10, .putfield 9, 3), (13, .aload_n 0, 1), (14, .bipush 28, 2), (16, .newarray .long, 2), (18, .putfield 15, 3), (21, .aload_n 0, 1), (22, .sipush 4001, 3), (25, .newarray .int, 2), (27, .putfield 19, 3), (30, .aload_n 0, 1), (31, .sipush 4001, 3), (34, .newarray .int, 2), (36, .putfield 23, 3), (39, .aload_n 0, 1), (40, .sipush 4001, 3), (43, .newarray .long, 2), (45, .putfield 26, 3), (48, .iconst 0, 1), (49, .istore_n 1, 1)] = true ∧ dOk cX9_init [(50, .iconst 0, 1), (51, .istore_n 2, 1), (52, .iload_n 2, 1), (53, .ldc 29, 2), (55, .invokevirtual 31, 3), (58, .if_icmp .ge 56, 3), (114, .return_, 1), (61, .iload_n 1, 1), (62, .bipush 28, 2), (64, .if_icmp .ge 50, 3), (67, .ldc 29, 2), (69, .iload_n 2, 1), (70, .invokevirtual 37, 3), (73, .istore_n 3, 1), (74, .iload_n 3, 1), (75, .bipush 32, 2), (77, .if_icmp .ne 9, 3), (86, .aload_n 0, 1), (87, .getfield 15, 3), (90, .iload_n 1, 1), (91, .aload_n 0, 1), (92, .getfield 15, 3), (95, .iload_n 1, 1), (96, .laload, 1)] = true ∧ dOk cX9_init [(97, .ldc2_w 41, 3), (100, .lmul, 1), (101, .iload_n 3, 1), (102, .invokestatic 43, 3), (105, .i2l, 1), (106, .ladd, 1), (107, .lastore, 1), (108, .iinc 2 1, 3), (111, .goto (-59), 3), (80, .iinc 1 1, 3), (83, .goto 25, 3)] = true := by decide +kernel
theorem dX9_init_0 : decode cX9_init 0 = .ok (.aload_n 0, 1) := dr9 dk9_dX9_init_0_0.1 0 (0, .aload_n 0, 1) rfl
theorem dX9_init_1 : decode cX9_init 1 = .ok (.invokespecial 3, 3) := dr9 dk9_dX9_init_0_0.1 1 (1, .invokespecial 3, 3) rfl
theorem dX9_init_4 : decode cX9_init 4 = .ok (.aload_n 0, 1) := dr9 dk9_dX9_init_0_0.1 2 (4, .aload_n 0, 1) rfl
theorem dX9_init_5 : decode cX9_init 5 = .ok (.sipush 4000, 3) := dr9 dk9_dX9_init_0_0.1 3 (5, .sipush 4000, 3) rfl
theorem dX9_init_8 : decode cX9_init 8 = .ok (.newarray .byte, 2) := dr9 dk9_dX9_init_0_0.1 4 (8, .newarray .byte, 2) rfl
theorem dX9_init_10 : decode cX9_init 10 = .ok (.putfield 9, 3) := dr9 dk9_dX9_init_0_0.1 5 (10, .putfield 9, 3) rfl
theorem dX9_init_13 : decode cX9_init 13 = .ok (.aload_n 0, 1) := dr9 dk9_dX9_init_0_0.1 6 (13, .aload_n 0, 1) rfl
theorem dX9_init_14 : decode cX9_init 14 = .ok (.bipush 28, 2) := dr9 dk9_dX9_init_0_0.1 7 (14, .bipush 28, 2) rfl
theorem dX9_init_16 : decode cX9_init 16 = .ok (.newarray .long, 2) := dr9 dk9_dX9_init_0_0.1 8 (16, .newarray .long, 2) rfl
theorem dX9_init_18 : decode cX9_init 18 = .ok (.putfield 15, 3) := dr9 dk9_dX9_init_0_0.1 9 (18, .putfield 15, 3) rfl
theorem dX9_init_21 : decode cX9_init 21 = .ok (.aload_n 0, 1) := dr9 dk9_dX9_init_0_0.1 10 (21, .aload_n 0, 1) rfl
theorem dX9_init_22 : decode cX9_init 22 = .ok (.sipush 4001, 3) := dr9 dk9_dX9_init_0_0.1 11 (22, .sipush 4001, 3) rfl
theorem dX9_init_25 : decode cX9_init 25 = .ok (.newarray .int, 2) := dr9 dk9_dX9_init_0_0.1 12 (25, .newarray .int, 2) rfl
theorem dX9_init_27 : decode cX9_init 27 = .ok (.putfield 19, 3) := dr9 dk9_dX9_init_0_0.1 13 (27, .putfield 19, 3) rfl
theorem dX9_init_30 : decode cX9_init 30 = .ok (.aload_n 0, 1) := dr9 dk9_dX9_init_0_0.1 14 (30, .aload_n 0, 1) rfl
theorem dX9_init_31 : decode cX9_init 31 = .ok (.sipush 4001, 3) := dr9 dk9_dX9_init_0_0.1 15 (31, .sipush 4001, 3) rfl
theorem dX9_init_34 : decode cX9_init 34 = .ok (.newarray .int, 2) := dr9 dk9_dX9_init_0_0.1 16 (34, .newarray .int, 2) rfl
theorem dX9_init_36 : decode cX9_init 36 = .ok (.putfield 23, 3) := dr9 dk9_dX9_init_0_0.1 17 (36, .putfield 23, 3) rfl
theorem dX9_init_39 : decode cX9_init 39 = .ok (.aload_n 0, 1) := dr9 dk9_dX9_init_0_0.1 18 (39, .aload_n 0, 1) rfl
theorem dX9_init_40 : decode cX9_init 40 = .ok (.sipush 4001, 3) := dr9 dk9_dX9_init_0_0.1 19 (40, .sipush 4001, 3) rfl
theorem dX9_init_43 : decode cX9_init 43 = .ok (.newarray .long, 2) := dr9 dk9_dX9_init_0_0.1 20 (43, .newarray .long, 2) rfl
theorem dX9_init_45 : decode cX9_init 45 = .ok (.putfield 26, 3) := dr9 dk9_dX9_init_0_0.1 21 (45, .putfield 26, 3) rfl
theorem dX9_init_48 : decode cX9_init 48 = .ok (.iconst 0, 1) := dr9 dk9_dX9_init_0_0.1 22 (48, .iconst 0, 1) rfl
theorem dX9_init_49 : decode cX9_init 49 = .ok (.istore_n 1, 1) := dr9 dk9_dX9_init_0_0.1 23 (49, .istore_n 1, 1) rfl
theorem dX9_init_50 : decode cX9_init 50 = .ok (.iconst 0, 1) := dr9 dk9_dX9_init_0_0.2.1 0 (50, .iconst 0, 1) rfl
theorem dX9_init_51 : decode cX9_init 51 = .ok (.istore_n 2, 1) := dr9 dk9_dX9_init_0_0.2.1 1 (51, .istore_n 2, 1) rfl
theorem dX9_init_52 : decode cX9_init 52 = .ok (.iload_n 2, 1) := dr9 dk9_dX9_init_0_0.2.1 2 (52, .iload_n 2, 1) rfl
theorem dX9_init_53 : decode cX9_init 53 = .ok (.ldc 29, 2) := dr9 dk9_dX9_init_0_0.2.1 3 (53, .ldc 29, 2) rfl
theorem dX9_init_55 : decode cX9_init 55 = .ok (.invokevirtual 31, 3) := dr9 dk9_dX9_init_0_0.2.1 4 (55, .invokevirtual 31, 3) rfl
theorem dX9_init_58 : decode cX9_init 58 = .ok (.if_icmp .ge 56, 3) := dr9 dk9_dX9_init_0_0.2.1 5 (58, .if_icmp .ge 56, 3) rfl
theorem dX9_init_114 : decode cX9_init 114 = .ok (.return_, 1) := dr9 dk9_dX9_init_0_0.2.1 6 (114, .return_, 1) rfl
theorem dX9_init_61 : decode cX9_init 61 = .ok (.iload_n 1, 1) := dr9 dk9_dX9_init_0_0.2.1 7 (61, .iload_n 1, 1) rfl
theorem dX9_init_62 : decode cX9_init 62 = .ok (.bipush 28, 2) := dr9 dk9_dX9_init_0_0.2.1 8 (62, .bipush 28, 2) rfl
theorem dX9_init_64 : decode cX9_init 64 = .ok (.if_icmp .ge 50, 3) := dr9 dk9_dX9_init_0_0.2.1 9 (64, .if_icmp .ge 50, 3) rfl
theorem dX9_init_67 : decode cX9_init 67 = .ok (.ldc 29, 2) := dr9 dk9_dX9_init_0_0.2.1 10 (67, .ldc 29, 2) rfl
theorem dX9_init_69 : decode cX9_init 69 = .ok (.iload_n 2, 1) := dr9 dk9_dX9_init_0_0.2.1 11 (69, .iload_n 2, 1) rfl
theorem dX9_init_70 : decode cX9_init 70 = .ok (.invokevirtual 37, 3) := dr9 dk9_dX9_init_0_0.2.1 12 (70, .invokevirtual 37, 3) rfl
theorem dX9_init_73 : decode cX9_init 73 = .ok (.istore_n 3, 1) := dr9 dk9_dX9_init_0_0.2.1 13 (73, .istore_n 3, 1) rfl
theorem dX9_init_74 : decode cX9_init 74 = .ok (.iload_n 3, 1) := dr9 dk9_dX9_init_0_0.2.1 14 (74, .iload_n 3, 1) rfl
theorem dX9_init_75 : decode cX9_init 75 = .ok (.bipush 32, 2) := dr9 dk9_dX9_init_0_0.2.1 15 (75, .bipush 32, 2) rfl
theorem dX9_init_77 : decode cX9_init 77 = .ok (.if_icmp .ne 9, 3) := dr9 dk9_dX9_init_0_0.2.1 16 (77, .if_icmp .ne 9, 3) rfl
theorem dX9_init_86 : decode cX9_init 86 = .ok (.aload_n 0, 1) := dr9 dk9_dX9_init_0_0.2.1 17 (86, .aload_n 0, 1) rfl
theorem dX9_init_87 : decode cX9_init 87 = .ok (.getfield 15, 3) := dr9 dk9_dX9_init_0_0.2.1 18 (87, .getfield 15, 3) rfl
theorem dX9_init_90 : decode cX9_init 90 = .ok (.iload_n 1, 1) := dr9 dk9_dX9_init_0_0.2.1 19 (90, .iload_n 1, 1) rfl
theorem dX9_init_91 : decode cX9_init 91 = .ok (.aload_n 0, 1) := dr9 dk9_dX9_init_0_0.2.1 20 (91, .aload_n 0, 1) rfl
theorem dX9_init_92 : decode cX9_init 92 = .ok (.getfield 15, 3) := dr9 dk9_dX9_init_0_0.2.1 21 (92, .getfield 15, 3) rfl
theorem dX9_init_95 : decode cX9_init 95 = .ok (.iload_n 1, 1) := dr9 dk9_dX9_init_0_0.2.1 22 (95, .iload_n 1, 1) rfl
theorem dX9_init_96 : decode cX9_init 96 = .ok (.laload, 1) := dr9 dk9_dX9_init_0_0.2.1 23 (96, .laload, 1) rfl
theorem dX9_init_97 : decode cX9_init 97 = .ok (.ldc2_w 41, 3) := dr9 dk9_dX9_init_0_0.2.2 0 (97, .ldc2_w 41, 3) rfl
theorem dX9_init_100 : decode cX9_init 100 = .ok (.lmul, 1) := dr9 dk9_dX9_init_0_0.2.2 1 (100, .lmul, 1) rfl
theorem dX9_init_101 : decode cX9_init 101 = .ok (.iload_n 3, 1) := dr9 dk9_dX9_init_0_0.2.2 2 (101, .iload_n 3, 1) rfl
theorem dX9_init_102 : decode cX9_init 102 = .ok (.invokestatic 43, 3) := dr9 dk9_dX9_init_0_0.2.2 3 (102, .invokestatic 43, 3) rfl
theorem dX9_init_105 : decode cX9_init 105 = .ok (.i2l, 1) := dr9 dk9_dX9_init_0_0.2.2 4 (105, .i2l, 1) rfl
theorem dX9_init_106 : decode cX9_init 106 = .ok (.ladd, 1) := dr9 dk9_dX9_init_0_0.2.2 5 (106, .ladd, 1) rfl
theorem dX9_init_107 : decode cX9_init 107 = .ok (.lastore, 1) := dr9 dk9_dX9_init_0_0.2.2 6 (107, .lastore, 1) rfl
theorem dX9_init_108 : decode cX9_init 108 = .ok (.iinc 2 1, 3) := dr9 dk9_dX9_init_0_0.2.2 7 (108, .iinc 2 1, 3) rfl
theorem dX9_init_111 : decode cX9_init 111 = .ok (.goto (-59), 3) := dr9 dk9_dX9_init_0_0.2.2 8 (111, .goto (-59), 3) rfl
theorem dX9_init_80 : decode cX9_init 80 = .ok (.iinc 1 1, 3) := dr9 dk9_dX9_init_0_0.2.2 9 (80, .iinc 1 1, 3) rfl
theorem dX9_init_83 : decode cX9_init 83 = .ok (.goto 25, 3) := dr9 dk9_dX9_init_0_0.2.2 10 (83, .goto 25, 3) rfl
abbrev r_c_fillN : Room := { frames := 0, cells := 0, slots := 0, locals := 0 }
abbrev q_c_fillN (D : va_G) (a0 : Nat) (kA : ClassId) (N : Nat) (f : Nat → Int32) (pv : Int32) (A : Nat → Prop) : Array Value → State → Outcome → State → Prop := va_Qv (fun (u : Nat → Int32) => ∀ q : Nat, u q = if q < N then pv else f q) (fun u t => gq D A ((fun (u : Nat → Int32) => [(a0, .inl (kA, N, .inl (u)))]) u) ((fun (u : Nat → Int32) => ([(kA, .int)] : List (ClassId × FieldType))) u) t) A
set_option maxHeartbeats 4000000 in
set_option maxRecDepth 100000 in
theorem c_fillN (l : Launch) (D : va_G) (ks : KS) (sz : Nat) (a0 : Nat) (kA : ClassId) (N : Nat) (f : Nat → Int32) (pv : Int32) (hN : N < 2 ^ 31) : Met l yJ7_fill_53178 (Cond.code yJ7_fill_53178 cJ7_fill_53178 4 none :: GW) r_c_fillN (va_Pc [.ref a0, .int pv] (gp D ks [(a0, .inl (kA, N, .inl (f)))] [(kA, .int)] sz)) (q_c_fillN D a0 kA N f pv (va_A [(a0, .inl (kA, N, .inl (f)))] sz)) 0 0 (va_A [(a0, .inl (kA, N, .inl (f)))] sz) := by
  refine g_met (q_c_fillN D a0 kA N f pv) (by decide) (Nat.le_of_ble_eq_true rfl) ?_
  intro p e s m below meth c A ls H locs hx hb hr hml hown hg hlocks hin hnw hgk hP hK hD hS hA hl
  have hown : s.vm.findClass RJ7 = some m.cls := hown
  have hl : lv_has ls 4 [(0, .ref a0), (1, .int pv)] := hl
  refine lv_iconst (v := 0) hx hb dJ7_fill_53178_0 (by decide) ?_
  refine lv_istore_n (lv' := [(2, .int 0), (0, .ref a0), (1, .int pv)]) hx hb dJ7_fill_53178_1 rfl hl (by decide) rfl (fun ls hl => ?_)
  refine lv_aload_n hx hb dJ7_fill_53178_2 rfl (lv_at hl 1 rfl) ?_
  refine va_alen (D := D) (v := (nI N)) hx hb hK hP 0 0 rfl rfl rfl dJ7_fill_53178_3 ?_
  refine lv_istore_n (lv' := [(3, .int (nI N)), (2, .int 0), (0, .ref a0), (1, .int pv)]) hx hb dJ7_fill_53178_4 rfl hl (by decide) rfl (fun ls hl => ?_)
  refine W.widen (k := 0) (n := 0) (Nat.le_of_ble_eq_true rfl) (Nat.le_of_ble_eq_true rfl) ?_
  have lp1 : ∀ (n : Nat) (i : Nat) (g : Nat → Int32) (H : Heap) (locs : List Loc) (ls : Array Slot), i ≤ N → (∀ q : Nat, g q = if q < i then pv else f q) → N < i + n → va_P D vwCl [(a0, .inl (kA, N, .inl (g)))] H → va_D A [(a0, .inl (kA, N, .inl (g)))] → va_S A s.heap H locs → lv_has ls 4 [(3, .int (nI N)), (2, .int (nI i)), (0, .ref a0), (1, .int pv)] → W p l e r_c_fillN s m ([.ref a0, .int pv] : List Value).toArray below meth c H locs (0) (0) (MQ below (q_c_fillN D a0 kA N f pv A) ([.ref a0, .int pv] : List Value).toArray s 0 0 A) (F0 m 5 ls []) := by
    intro n
    induction n with
    | zero =>
      intro i g H locs ls hi hg9 hn hP hD hS hl
      exact absurd hn (by omega)
    | succ n ih =>
      intro i g H locs ls hi hg9 hn hP hD hS hl
      refine lv_iload_n hx hb dJ7_fill_53178_5 rfl (lv_at hl 1 rfl) ?_
      refine lv_iload_n hx hb dJ7_fill_53178_6 rfl (lv_at hl 0 rfl) ?_
      refine lv_icmp_ge (tgt := 20) hx hb dJ7_fill_53178_7 (by decide) (fun c2 => ?_) (fun c2 => ?_)
      · skip
        have gc2 : N ≤ i := g_ge_ge (L := N) (by omega) (by omega) c2
        refine W.widen (k := 0) (n := 0) (Nat.le_of_ble_eq_true rfl) (Nat.le_of_ble_eq_true rfl) ?_
        have hP9 := hP.sub (ws' := [(a0, .inl (kA, N, .inl (g)))]) [0] rfl
        have hD9 := hD.sub (ws' := [(a0, .inl (kA, N, .inl (g)))]) [0] (by decide) rfl
        have hK9 := hK.sub (tys' := [(kA, .int)]) [0] rfl
        exact W.vret hx hb hr (fun t ht hW => ⟨⟨(g), rfl, (fun q => by have e9 : i = N := (by omega); rw [e9] at hg9; exact hg9 q), by rw [ht]; exact hP9, va_K.moved hW.alike hK9, hD9⟩, hS.F ht⟩) hS.2.2 dJ7_fill_53178_20
      · skip
        have gc2 : i < N := g_lt_ge (L := N) (by omega) (by omega) c2
        refine lv_aload_n hx hb dJ7_fill_53178_10 rfl (lv_at hl 2 rfl) ?_
        refine lv_iload_n hx hb dJ7_fill_53178_11 rfl (lv_at hl 1 rfl) ?_
        refine lv_iload_n hx hb dJ7_fill_53178_12 rfl (lv_at hl 3 rfl) ?_
        refine va_iast (D := D) (i := (nI i)) (x := pv) hx hb hK hP hD hS 0 0 rfl rfl (vp_in_nI (by omega) (by omega)) dJ7_fill_53178_13 (fun H locs hP hD hS => ?_)
        have hP : va_P D vwCl [(a0, .inl (kA, N, .inl (upd g (Int32.toNatClampNeg (nI i)) pv)))] H := hP
        have hD : va_D A [(a0, .inl (kA, N, .inl (upd g (Int32.toNatClampNeg (nI i)) pv)))] := hD
        obtain ⟨f3, hf3⟩ : ∃ z, z = upd g (Int32.toNatClampNeg (nI i)) pv := ⟨_, rfl⟩
        rw [← hf3] at hP hD
        refine lv_iinc (v := (nI (i + 1))) (lv' := [(2, .int (nI (i + 1))), (3, .int (nI N)), (0, .ref a0), (1, .int pv)]) hx hb dJ7_fill_53178_14 hl (k := 1) rfl (nI_1 _) (by decide) rfl (fun ls hl => ?_)
        refine lv_goto (tgt := 5) hx hb dJ7_fill_53178_17 (by decide) ?_
        exact ih (i + 1) f3 H locs ls (by omega) (fill_up hg9 (by rw [hf3, nI_clamp (by omega)])) (by omega) (hP.sub [0] rfl) (hD.sub [0] (by decide) rfl) hS (lv_sub hl [1, 0, 2, 3] rfl)
  exact lp1 (N + 1) 0 f H locs ls (Nat.zero_le _) (fun q => by rw [if_neg (by omega)]) (by (first | exact om_9f6c8d73d61d | omega)) hP hD hS hl
abbrev r_c_Names_init24 : Room := { frames := 1, cells := 1, slots := 24, locals := 20 }
abbrev q_c_Names_init24 (D : va_G) (h0 : Nat) (A : Nat → Prop) : Array Value → State → Outcome → State → Prop := va_Qv (fun (u : Nat × ClassId) => True) (fun u t => gq D A ((fun (u : Nat × ClassId) => [(h0, .inr (6, [.ref u.1, .int 0])), (u.1, .inl (u.2, 24, .inr (.inl (fun _ => 0))))]) u) ((fun (u : Nat × ClassId) => ([(u.2, .long)] : List (ClassId × FieldType))) u) t) A
set_option maxHeartbeats 4000000 in
set_option maxRecDepth 100000 in
theorem c_Names_init24 (l : Launch) (D : va_G) (ks : KS) (sz : Nat) (h0 : Nat) : Met l yX6_init (Cond.code yX6_init cX6_init 2 none :: GW) r_c_Names_init24 (va_Pc [.ref h0, .int 24] (gp D ks [(h0, .inr (6, [.null, .int 0]))] [] sz)) (q_c_Names_init24 D h0 (va_A [(h0, .inr (6, [.null, .int 0]))] sz)) 1 24 (va_A [(h0, .inr (6, [.null, .int 0]))] sz) := by
  refine g_met (q_c_Names_init24 D h0) (by decide) (Nat.le_of_ble_eq_true rfl) ?_
  intro p e s m below meth c A ls H locs hx hb hr hml hown hg hlocks hin hnw hgk hP hK hD hS hA hl
  have hown : s.vm.findClass RX6 = some m.cls := hown
  have hin : meth.name = "<init>" := hin
  have hl : lv_has ls 2 [(0, .ref h0), (1, .int 24)] := hl
  refine lv_aload_n hx hb dX6_init_0 rfl (lv_at hl 0 rfl) ?_
  refine W.objInit hx hb hown (hg _ w478) (hg _ w188) (hg _ wobj) rfl (by rw [hml]; exact hl.1) rfl dX6_init_1 (Nat.le_of_ble_eq_true rfl) (Nat.le_of_ble_eq_true rfl) ?_
  refine W.eq (g2 := F0 m 4 ls []) rfl ?_
  refine lv_aload_n hx hb dX6_init_4 rfl (lv_at hl 0 rfl) ?_
  refine lv_iload_n hx hb dX6_init_5 rfl (lv_at hl 1 rfl) ?_
  refine lv_if_le (tgt := 13) hx hb dX6_init_6 (by decide) (fun q => absurd q (by decide)) (fun _ => ?_)
  refine lv_iload_n hx hb dX6_init_9 rfl (lv_at hl 1 rfl) ?_
  refine lv_goto (tgt := 14) hx hb dX6_init_10 (by decide) ?_
  refine va_newa (D := D) (atype := .long) (ty := .long) (n := 24) (N' := 24) (a0 := (24, .inr (.inl (fun _ => 0)))) hx hb (hg _ w296) rfl hK hP hD hS hA (fun _ => rfl) (by decide) (by decide) (by decide) (Nat.le_of_ble_eq_true rfl) (Nat.le_of_ble_eq_true rfl) dX6_init_14 (fun q1 k2 H hK hP hD hS => ?_)
  have hP : va_P D vwCl [(h0, .inr (6, [.null, .int 0])), (q1, .inl (k2, 24, .inr (.inl (fun _ => 0))))] H := hP
  have hD : va_D A [(h0, .inr (6, [.null, .int 0])), (q1, .inl (k2, 24, .inr (.inl (fun _ => 0))))] := hD
  have hK : va_K D vwCl [(k2, .long)] s := hK
  refine va_putF (D := D) (ci := 6) (v := .ref q1) (ty := tyX6 0) (C := RX6) (T := TX6) (N := 2) hx hb hg inX6 tyX6 tyX6_ok nmX6 hown hK hP hD hS 0 rfl rfl 0 (by decide) (hg _ w479) (fun _ h9 => h9) rfl hin rfl (tyX6_ok 0 (by decide)) rfl rfl (Nat.le_of_ble_eq_true rfl) dX6_init_16 (fun H locs hP hD hS => ?_)
  have hP : va_P D vwCl [(h0, .inr (6, [.ref q1, .int 0])), (q1, .inl (k2, 24, .inr (.inl (fun _ => 0))))] H := hP
  have hD : va_D A [(h0, .inr (6, [.ref q1, .int 0])), (q1, .inl (k2, 24, .inr (.inl (fun _ => 0))))] := hD
  refine W.widen (k := 1) (n := 24) (Nat.le_of_ble_eq_true rfl) (Nat.le_of_ble_eq_true rfl) ?_
  have hP9 := hP.sub (ws' := [(h0, .inr (6, [.ref q1, .int 0])), (q1, .inl (k2, 24, .inr (.inl (fun _ => 0))))]) [0, 1] rfl
  have hD9 := hD.sub (ws' := [(h0, .inr (6, [.ref q1, .int 0])), (q1, .inl (k2, 24, .inr (.inl (fun _ => 0))))]) [0, 1] (by decide) rfl
  have hK9 := hK.sub (tys' := [(k2, .long)]) [0] rfl
  exact W.vret hx hb hr (fun t ht hW => ⟨⟨(q1, k2), rfl, (by first | rfl | trivial | assumption | decide), by rw [ht]; exact hP9, va_K.moved hW.alike hK9, hD9⟩, hS.F ht⟩) hS.2.2 dX6_init_19
abbrev r_c_Names_init12 : Room := { frames := 1, cells := 1, slots := 12, locals := 20 }
abbrev q_c_Names_init12 (D : va_G) (h0 : Nat) (A : Nat → Prop) : Array Value → State → Outcome → State → Prop := va_Qv (fun (u : Nat × ClassId) => True) (fun u t => gq D A ((fun (u : Nat × ClassId) => [(h0, .inr (6, [.ref u.1, .int 0])), (u.1, .inl (u.2, 12, .inr (.inl (fun _ => 0))))]) u) ((fun (u : Nat × ClassId) => ([(u.2, .long)] : List (ClassId × FieldType))) u) t) A
set_option maxHeartbeats 4000000 in
set_option maxRecDepth 100000 in
theorem c_Names_init12 (l : Launch) (D : va_G) (ks : KS) (sz : Nat) (h0 : Nat) : Met l yX6_init (Cond.code yX6_init cX6_init 2 none :: GW) r_c_Names_init12 (va_Pc [.ref h0, .int 12] (gp D ks [(h0, .inr (6, [.null, .int 0]))] [] sz)) (q_c_Names_init12 D h0 (va_A [(h0, .inr (6, [.null, .int 0]))] sz)) 1 12 (va_A [(h0, .inr (6, [.null, .int 0]))] sz) := by
  refine g_met (q_c_Names_init12 D h0) (by decide) (Nat.le_of_ble_eq_true rfl) ?_
  intro p e s m below meth c A ls H locs hx hb hr hml hown hg hlocks hin hnw hgk hP hK hD hS hA hl
  have hown : s.vm.findClass RX6 = some m.cls := hown
  have hin : meth.name = "<init>" := hin
  have hl : lv_has ls 2 [(0, .ref h0), (1, .int 12)] := hl
  refine lv_aload_n hx hb dX6_init_0 rfl (lv_at hl 0 rfl) ?_
  refine W.objInit hx hb hown (hg _ w478) (hg _ w188) (hg _ wobj) rfl (by rw [hml]; exact hl.1) rfl dX6_init_1 (Nat.le_of_ble_eq_true rfl) (Nat.le_of_ble_eq_true rfl) ?_
  refine W.eq (g2 := F0 m 4 ls []) rfl ?_
  refine lv_aload_n hx hb dX6_init_4 rfl (lv_at hl 0 rfl) ?_
  refine lv_iload_n hx hb dX6_init_5 rfl (lv_at hl 1 rfl) ?_
  refine lv_if_le (tgt := 13) hx hb dX6_init_6 (by decide) (fun q => absurd q (by decide)) (fun _ => ?_)
  refine lv_iload_n hx hb dX6_init_9 rfl (lv_at hl 1 rfl) ?_
  refine lv_goto (tgt := 14) hx hb dX6_init_10 (by decide) ?_
  refine va_newa (D := D) (atype := .long) (ty := .long) (n := 12) (N' := 12) (a0 := (12, .inr (.inl (fun _ => 0)))) hx hb (hg _ w296) rfl hK hP hD hS hA (fun _ => rfl) (by decide) (by decide) (by decide) (Nat.le_of_ble_eq_true rfl) (Nat.le_of_ble_eq_true rfl) dX6_init_14 (fun q1 k2 H hK hP hD hS => ?_)
  have hP : va_P D vwCl [(h0, .inr (6, [.null, .int 0])), (q1, .inl (k2, 12, .inr (.inl (fun _ => 0))))] H := hP
  have hD : va_D A [(h0, .inr (6, [.null, .int 0])), (q1, .inl (k2, 12, .inr (.inl (fun _ => 0))))] := hD
  have hK : va_K D vwCl [(k2, .long)] s := hK
  refine va_putF (D := D) (ci := 6) (v := .ref q1) (ty := tyX6 0) (C := RX6) (T := TX6) (N := 2) hx hb hg inX6 tyX6 tyX6_ok nmX6 hown hK hP hD hS 0 rfl rfl 0 (by decide) (hg _ w479) (fun _ h9 => h9) rfl hin rfl (tyX6_ok 0 (by decide)) rfl rfl (Nat.le_of_ble_eq_true rfl) dX6_init_16 (fun H locs hP hD hS => ?_)
  have hP : va_P D vwCl [(h0, .inr (6, [.ref q1, .int 0])), (q1, .inl (k2, 12, .inr (.inl (fun _ => 0))))] H := hP
  have hD : va_D A [(h0, .inr (6, [.ref q1, .int 0])), (q1, .inl (k2, 12, .inr (.inl (fun _ => 0))))] := hD
  refine W.widen (k := 1) (n := 12) (Nat.le_of_ble_eq_true rfl) (Nat.le_of_ble_eq_true rfl) ?_
  have hP9 := hP.sub (ws' := [(h0, .inr (6, [.ref q1, .int 0])), (q1, .inl (k2, 12, .inr (.inl (fun _ => 0))))]) [0, 1] rfl
  have hD9 := hD.sub (ws' := [(h0, .inr (6, [.ref q1, .int 0])), (q1, .inl (k2, 12, .inr (.inl (fun _ => 0))))]) [0, 1] (by decide) rfl
  have hK9 := hK.sub (tys' := [(k2, .long)]) [0] rfl
  exact W.vret hx hb hr (fun t ht hW => ⟨⟨(q1, k2), rfl, (by first | rfl | trivial | assumption | decide), by rw [ht]; exact hP9, va_K.moved hW.alike hK9, hD9⟩, hS.F ht⟩) hS.2.2 dX6_init_19
abbrev r_c_Names_init20 : Room := { frames := 1, cells := 1, slots := 20, locals := 20 }
abbrev q_c_Names_init20 (D : va_G) (h0 : Nat) (A : Nat → Prop) : Array Value → State → Outcome → State → Prop := va_Qv (fun (u : Nat × ClassId) => True) (fun u t => gq D A ((fun (u : Nat × ClassId) => [(h0, .inr (6, [.ref u.1, .int 0])), (u.1, .inl (u.2, 20, .inr (.inl (fun _ => 0))))]) u) ((fun (u : Nat × ClassId) => ([(u.2, .long)] : List (ClassId × FieldType))) u) t) A
set_option maxHeartbeats 4000000 in
set_option maxRecDepth 100000 in
theorem c_Names_init20 (l : Launch) (D : va_G) (ks : KS) (sz : Nat) (h0 : Nat) : Met l yX6_init (Cond.code yX6_init cX6_init 2 none :: GW) r_c_Names_init20 (va_Pc [.ref h0, .int 20] (gp D ks [(h0, .inr (6, [.null, .int 0]))] [] sz)) (q_c_Names_init20 D h0 (va_A [(h0, .inr (6, [.null, .int 0]))] sz)) 1 20 (va_A [(h0, .inr (6, [.null, .int 0]))] sz) := by
  refine g_met (q_c_Names_init20 D h0) (by decide) (Nat.le_of_ble_eq_true rfl) ?_
  intro p e s m below meth c A ls H locs hx hb hr hml hown hg hlocks hin hnw hgk hP hK hD hS hA hl
  have hown : s.vm.findClass RX6 = some m.cls := hown
  have hin : meth.name = "<init>" := hin
  have hl : lv_has ls 2 [(0, .ref h0), (1, .int 20)] := hl
  refine lv_aload_n hx hb dX6_init_0 rfl (lv_at hl 0 rfl) ?_
  refine W.objInit hx hb hown (hg _ w478) (hg _ w188) (hg _ wobj) rfl (by rw [hml]; exact hl.1) rfl dX6_init_1 (Nat.le_of_ble_eq_true rfl) (Nat.le_of_ble_eq_true rfl) ?_
  refine W.eq (g2 := F0 m 4 ls []) rfl ?_
  refine lv_aload_n hx hb dX6_init_4 rfl (lv_at hl 0 rfl) ?_
  refine lv_iload_n hx hb dX6_init_5 rfl (lv_at hl 1 rfl) ?_
  refine lv_if_le (tgt := 13) hx hb dX6_init_6 (by decide) (fun q => absurd q (by decide)) (fun _ => ?_)
  refine lv_iload_n hx hb dX6_init_9 rfl (lv_at hl 1 rfl) ?_
  refine lv_goto (tgt := 14) hx hb dX6_init_10 (by decide) ?_
  refine va_newa (D := D) (atype := .long) (ty := .long) (n := 20) (N' := 20) (a0 := (20, .inr (.inl (fun _ => 0)))) hx hb (hg _ w296) rfl hK hP hD hS hA (fun _ => rfl) (by decide) (by decide) (by decide) (Nat.le_of_ble_eq_true rfl) (Nat.le_of_ble_eq_true rfl) dX6_init_14 (fun q1 k2 H hK hP hD hS => ?_)
  have hP : va_P D vwCl [(h0, .inr (6, [.null, .int 0])), (q1, .inl (k2, 20, .inr (.inl (fun _ => 0))))] H := hP
  have hD : va_D A [(h0, .inr (6, [.null, .int 0])), (q1, .inl (k2, 20, .inr (.inl (fun _ => 0))))] := hD
  have hK : va_K D vwCl [(k2, .long)] s := hK
  refine va_putF (D := D) (ci := 6) (v := .ref q1) (ty := tyX6 0) (C := RX6) (T := TX6) (N := 2) hx hb hg inX6 tyX6 tyX6_ok nmX6 hown hK hP hD hS 0 rfl rfl 0 (by decide) (hg _ w479) (fun _ h9 => h9) rfl hin rfl (tyX6_ok 0 (by decide)) rfl rfl (Nat.le_of_ble_eq_true rfl) dX6_init_16 (fun H locs hP hD hS => ?_)
  have hP : va_P D vwCl [(h0, .inr (6, [.ref q1, .int 0])), (q1, .inl (k2, 20, .inr (.inl (fun _ => 0))))] H := hP
  have hD : va_D A [(h0, .inr (6, [.ref q1, .int 0])), (q1, .inl (k2, 20, .inr (.inl (fun _ => 0))))] := hD
  refine W.widen (k := 1) (n := 20) (Nat.le_of_ble_eq_true rfl) (Nat.le_of_ble_eq_true rfl) ?_
  have hP9 := hP.sub (ws' := [(h0, .inr (6, [.ref q1, .int 0])), (q1, .inl (k2, 20, .inr (.inl (fun _ => 0))))]) [0, 1] rfl
  have hD9 := hD.sub (ws' := [(h0, .inr (6, [.ref q1, .int 0])), (q1, .inl (k2, 20, .inr (.inl (fun _ => 0))))]) [0, 1] (by decide) rfl
  have hK9 := hK.sub (tys' := [(k2, .long)]) [0] rfl
  exact W.vret hx hb hr (fun t ht hW => ⟨⟨(q1, k2), rfl, (by first | rfl | trivial | assumption | decide), by rw [ht]; exact hP9, va_K.moved hW.alike hK9, hD9⟩, hS.F ht⟩) hS.2.2 dX6_init_19
abbrev r_c_Wrap_init : Room := { frames := 1, cells := 0, slots := 0, locals := 20 }
abbrev q_c_Wrap_init (D : va_G) (h0 : Nat) (A : Nat → Prop) : Array Value → State → Outcome → State → Prop := va_Qv (fun (_ : Unit) => True) (fun u t => gq D A ((fun (_ : Unit) => [(h0, .inr (10, [.int 0, .int 0, .int 0, .int 0, .int 0]))]) u) ((fun (_ : Unit) => ([] : List (ClassId × FieldType))) u) t) A
set_option maxHeartbeats 4000000 in
set_option maxRecDepth 100000 in
theorem c_Wrap_init (l : Launch) (D : va_G) (ks : KS) (sz : Nat) (h0 : Nat) : Met l yX10_init (Cond.code yX10_init cX10_init 1 none :: GW) r_c_Wrap_init (va_Pc [.ref h0] (gp D ks [(h0, .inr (10, [.int 0, .int 0, .int 0, .int 0, .int 0]))] [] sz)) (q_c_Wrap_init D h0 (va_A [(h0, .inr (10, [.int 0, .int 0, .int 0, .int 0, .int 0]))] sz)) 0 0 (va_A [(h0, .inr (10, [.int 0, .int 0, .int 0, .int 0, .int 0]))] sz) := by
  refine g_met (q_c_Wrap_init D h0) (by decide) (Nat.le_of_ble_eq_true rfl) ?_
  intro p e s m below meth c A ls H locs hx hb hr hml hown hg hlocks hin hnw hgk hP hK hD hS hA hl
  have hown : s.vm.findClass RX10 = some m.cls := hown
  have hin : meth.name = "<init>" := hin
  have hl : lv_has ls 1 [(0, .ref h0)] := hl
  refine lv_aload_n hx hb dX10_init_0 rfl (lv_at hl 0 rfl) ?_
  refine W.objInit hx hb hown (hg _ w574) (hg _ w188) (hg _ wobj) rfl (by rw [hml]; exact hl.1) rfl dX10_init_1 (Nat.le_of_ble_eq_true rfl) (Nat.le_of_ble_eq_true rfl) ?_
  refine W.eq (g2 := F0 m 4 ls []) rfl ?_
  refine W.widen (k := 0) (n := 0) (Nat.le_of_ble_eq_true rfl) (Nat.le_of_ble_eq_true rfl) ?_
  have hP9 := hP.sub (ws' := [(h0, .inr (10, [.int 0, .int 0, .int 0, .int 0, .int 0]))]) [0] rfl
  have hD9 := hD.sub (ws' := [(h0, .inr (10, [.int 0, .int 0, .int 0, .int 0, .int 0]))]) [0] (by decide) rfl
  have hK9 := hK.sub (tys' := []) [] rfl
  exact W.vret hx hb hr (fun t ht hW => ⟨⟨(), rfl, (by first | rfl | trivial | assumption | decide), by rw [ht]; exact hP9, va_K.moved hW.alike hK9, hD9⟩, hS.F ht⟩) hS.2.2 dX10_init_4
abbrev r_c_Component_init : Room := { frames := 1, cells := 4, slots := 44, locals := 20 }
abbrev q_c_Component_init (D : va_G) (h0 : Nat) (A : Nat → Prop) : Array Value → State → Outcome → State → Prop := va_Qv (fun (u : Nat × Nat × Nat × Nat × ClassId × ClassId × ClassId × ClassId) => True) (fun u t => gq D A ((fun (u : Nat × Nat × Nat × Nat × ClassId × ClassId × ClassId × ClassId) => [(h0, .inr (3, [.ref u.1, .ref u.2.1, .ref u.2.2.1, .ref u.2.2.2.1, .int 0, .int 0, .int 0, .int 0, .int 0, .int 0, .int 0, .int 0, .int 0])), (u.1, .inl (u.2.2.2.2.1, 8, .inl (fun _ => 0))), (u.2.1, .inl (u.2.2.2.2.2.1, 8, .inl (fun _ => 0))), (u.2.2.1, .inl (u.2.2.2.2.2.2.1, 8, .inl (fun _ => 0))), (u.2.2.2.1, .inl (u.2.2.2.2.2.2.2, 20, .inl (fun _ => 0)))]) u) ((fun (u : Nat × Nat × Nat × Nat × ClassId × ClassId × ClassId × ClassId) => ([(u.2.2.2.2.1, .int), (u.2.2.2.2.2.1, .int), (u.2.2.2.2.2.2.1, .int), (u.2.2.2.2.2.2.2, .int)] : List (ClassId × FieldType))) u) t) A
set_option maxHeartbeats 4000000 in
set_option maxRecDepth 100000 in
theorem c_Component_init (l : Launch) (D : va_G) (ks : KS) (sz : Nat) (h0 : Nat) : Met l yX3_init (Cond.code yX3_init cX3_init 1 none :: GW) r_c_Component_init (va_Pc [.ref h0] (gp D ks [(h0, .inr (3, [.null, .null, .null, .null, .int 0, .int 0, .int 0, .int 0, .int 0, .int 0, .int 0, .int 0, .int 0]))] [] sz)) (q_c_Component_init D h0 (va_A [(h0, .inr (3, [.null, .null, .null, .null, .int 0, .int 0, .int 0, .int 0, .int 0, .int 0, .int 0, .int 0, .int 0]))] sz)) 4 44 (va_A [(h0, .inr (3, [.null, .null, .null, .null, .int 0, .int 0, .int 0, .int 0, .int 0, .int 0, .int 0, .int 0, .int 0]))] sz) := by
  refine g_met (q_c_Component_init D h0) (by decide) (Nat.le_of_ble_eq_true rfl) ?_
  intro p e s m below meth c A ls H locs hx hb hr hml hown hg hlocks hin hnw hgk hP hK hD hS hA hl
  have hown : s.vm.findClass RX3 = some m.cls := hown
  have hin : meth.name = "<init>" := hin
  have hl : lv_has ls 1 [(0, .ref h0)] := hl
  refine lv_aload_n hx hb dX3_init_0 rfl (lv_at hl 0 rfl) ?_
  refine W.objInit hx hb hown (hg _ w498) (hg _ w188) (hg _ wobj) rfl (by rw [hml]; exact hl.1) rfl dX3_init_1 (Nat.le_of_ble_eq_true rfl) (Nat.le_of_ble_eq_true rfl) ?_
  refine W.eq (g2 := F0 m 4 ls []) rfl ?_
  refine lv_aload_n hx hb dX3_init_4 rfl (lv_at hl 0 rfl) ?_
  refine lv_bipush (v := 8) hx hb dX3_init_5 (by decide) ?_
  refine va_newa (D := D) (atype := .int) (ty := .int) (n := 8) (N' := 8) (a0 := (8, .inl (fun _ => 0))) hx hb (hg _ w297) rfl hK hP hD hS hA (fun _ => rfl) (by decide) (by decide) (by decide) (Nat.le_of_ble_eq_true rfl) (Nat.le_of_ble_eq_true rfl) dX3_init_7 (fun q1 k2 H hK hP hD hS => ?_)
  have hP : va_P D vwCl [(h0, .inr (3, [.null, .null, .null, .null, .int 0, .int 0, .int 0, .int 0, .int 0, .int 0, .int 0, .int 0, .int 0])), (q1, .inl (k2, 8, .inl (fun _ => 0)))] H := hP
  have hD : va_D A [(h0, .inr (3, [.null, .null, .null, .null, .int 0, .int 0, .int 0, .int 0, .int 0, .int 0, .int 0, .int 0, .int 0])), (q1, .inl (k2, 8, .inl (fun _ => 0)))] := hD
  have hK : va_K D vwCl [(k2, .int)] s := hK
  refine va_putF (D := D) (ci := 3) (v := .ref q1) (ty := tyX3 0) (C := RX3) (T := TX3) (N := 13) hx hb hg inX3 tyX3 tyX3_ok nmX3 hown hK hP hD hS 0 rfl rfl 0 (by decide) (hg _ w499) (fun _ h9 => h9) rfl hin rfl (tyX3_ok 0 (by decide)) rfl rfl (Nat.le_of_ble_eq_true rfl) dX3_init_9 (fun H locs hP hD hS => ?_)
  have hP : va_P D vwCl [(h0, .inr (3, [.ref q1, .null, .null, .null, .int 0, .int 0, .int 0, .int 0, .int 0, .int 0, .int 0, .int 0, .int 0])), (q1, .inl (k2, 8, .inl (fun _ => 0)))] H := hP
  have hD : va_D A [(h0, .inr (3, [.ref q1, .null, .null, .null, .int 0, .int 0, .int 0, .int 0, .int 0, .int 0, .int 0, .int 0, .int 0])), (q1, .inl (k2, 8, .inl (fun _ => 0)))] := hD
  refine lv_aload_n hx hb dX3_init_12 rfl (lv_at hl 0 rfl) ?_
  refine lv_bipush (v := 8) hx hb dX3_init_13 (by decide) ?_
  refine va_newa (D := D) (atype := .int) (ty := .int) (n := 8) (N' := 8) (a0 := (8, .inl (fun _ => 0))) hx hb (hg _ w297) rfl hK hP hD hS hA (fun _ => rfl) (by decide) (by decide) (by decide) (Nat.le_of_ble_eq_true rfl) (Nat.le_of_ble_eq_true rfl) dX3_init_15 (fun q3 k4 H hK hP hD hS => ?_)
  have hP : va_P D vwCl [(h0, .inr (3, [.ref q1, .null, .null, .null, .int 0, .int 0, .int 0, .int 0, .int 0, .int 0, .int 0, .int 0, .int 0])), (q1, .inl (k2, 8, .inl (fun _ => 0))), (q3, .inl (k4, 8, .inl (fun _ => 0)))] H := hP
  have hD : va_D A [(h0, .inr (3, [.ref q1, .null, .null, .null, .int 0, .int 0, .int 0, .int 0, .int 0, .int 0, .int 0, .int 0, .int 0])), (q1, .inl (k2, 8, .inl (fun _ => 0))), (q3, .inl (k4, 8, .inl (fun _ => 0)))] := hD
  have hK : va_K D vwCl [(k2, .int), (k4, .int)] s := hK
  refine va_putF (D := D) (ci := 3) (v := .ref q3) (ty := tyX3 1) (C := RX3) (T := TX3) (N := 13) hx hb hg inX3 tyX3 tyX3_ok nmX3 hown hK hP hD hS 0 rfl rfl 1 (by decide) (hg _ w501) (fun _ h9 => h9) rfl hin rfl (tyX3_ok 1 (by decide)) rfl rfl (Nat.le_of_ble_eq_true rfl) dX3_init_17 (fun H locs hP hD hS => ?_)
  have hP : va_P D vwCl [(h0, .inr (3, [.ref q1, .ref q3, .null, .null, .int 0, .int 0, .int 0, .int 0, .int 0, .int 0, .int 0, .int 0, .int 0])), (q1, .inl (k2, 8, .inl (fun _ => 0))), (q3, .inl (k4, 8, .inl (fun _ => 0)))] H := hP
  have hD : va_D A [(h0, .inr (3, [.ref q1, .ref q3, .null, .null, .int 0, .int 0, .int 0, .int 0, .int 0, .int 0, .int 0, .int 0, .int 0])), (q1, .inl (k2, 8, .inl (fun _ => 0))), (q3, .inl (k4, 8, .inl (fun _ => 0)))] := hD
  refine lv_aload_n hx hb dX3_init_20 rfl (lv_at hl 0 rfl) ?_
  refine lv_bipush (v := 8) hx hb dX3_init_21 (by decide) ?_
  refine va_newa (D := D) (atype := .int) (ty := .int) (n := 8) (N' := 8) (a0 := (8, .inl (fun _ => 0))) hx hb (hg _ w297) rfl hK hP hD hS hA (fun _ => rfl) (by decide) (by decide) (by decide) (Nat.le_of_ble_eq_true rfl) (Nat.le_of_ble_eq_true rfl) dX3_init_23 (fun q5 k6 H hK hP hD hS => ?_)
  have hP : va_P D vwCl [(h0, .inr (3, [.ref q1, .ref q3, .null, .null, .int 0, .int 0, .int 0, .int 0, .int 0, .int 0, .int 0, .int 0, .int 0])), (q1, .inl (k2, 8, .inl (fun _ => 0))), (q3, .inl (k4, 8, .inl (fun _ => 0))), (q5, .inl (k6, 8, .inl (fun _ => 0)))] H := hP
  have hD : va_D A [(h0, .inr (3, [.ref q1, .ref q3, .null, .null, .int 0, .int 0, .int 0, .int 0, .int 0, .int 0, .int 0, .int 0, .int 0])), (q1, .inl (k2, 8, .inl (fun _ => 0))), (q3, .inl (k4, 8, .inl (fun _ => 0))), (q5, .inl (k6, 8, .inl (fun _ => 0)))] := hD
  have hK : va_K D vwCl [(k2, .int), (k4, .int), (k6, .int)] s := hK
  refine va_putF (D := D) (ci := 3) (v := .ref q5) (ty := tyX3 2) (C := RX3) (T := TX3) (N := 13) hx hb hg inX3 tyX3 tyX3_ok nmX3 hown hK hP hD hS 0 rfl rfl 2 (by decide) (hg _ w503) (fun _ h9 => h9) rfl hin rfl (tyX3_ok 2 (by decide)) rfl rfl (Nat.le_of_ble_eq_true rfl) dX3_init_25 (fun H locs hP hD hS => ?_)
  have hP : va_P D vwCl [(h0, .inr (3, [.ref q1, .ref q3, .ref q5, .null, .int 0, .int 0, .int 0, .int 0, .int 0, .int 0, .int 0, .int 0, .int 0])), (q1, .inl (k2, 8, .inl (fun _ => 0))), (q3, .inl (k4, 8, .inl (fun _ => 0))), (q5, .inl (k6, 8, .inl (fun _ => 0)))] H := hP
  have hD : va_D A [(h0, .inr (3, [.ref q1, .ref q3, .ref q5, .null, .int 0, .int 0, .int 0, .int 0, .int 0, .int 0, .int 0, .int 0, .int 0])), (q1, .inl (k2, 8, .inl (fun _ => 0))), (q3, .inl (k4, 8, .inl (fun _ => 0))), (q5, .inl (k6, 8, .inl (fun _ => 0)))] := hD
  refine lv_aload_n hx hb dX3_init_28 rfl (lv_at hl 0 rfl) ?_
  refine lv_bipush (v := 20) hx hb dX3_init_29 (by decide) ?_
  refine va_newa (D := D) (atype := .int) (ty := .int) (n := 20) (N' := 20) (a0 := (20, .inl (fun _ => 0))) hx hb (hg _ w297) rfl hK hP hD hS hA (fun _ => rfl) (by decide) (by decide) (by decide) (Nat.le_of_ble_eq_true rfl) (Nat.le_of_ble_eq_true rfl) dX3_init_31 (fun q7 k8 H hK hP hD hS => ?_)
  have hP : va_P D vwCl [(h0, .inr (3, [.ref q1, .ref q3, .ref q5, .null, .int 0, .int 0, .int 0, .int 0, .int 0, .int 0, .int 0, .int 0, .int 0])), (q1, .inl (k2, 8, .inl (fun _ => 0))), (q3, .inl (k4, 8, .inl (fun _ => 0))), (q5, .inl (k6, 8, .inl (fun _ => 0))), (q7, .inl (k8, 20, .inl (fun _ => 0)))] H := hP
  have hD : va_D A [(h0, .inr (3, [.ref q1, .ref q3, .ref q5, .null, .int 0, .int 0, .int 0, .int 0, .int 0, .int 0, .int 0, .int 0, .int 0])), (q1, .inl (k2, 8, .inl (fun _ => 0))), (q3, .inl (k4, 8, .inl (fun _ => 0))), (q5, .inl (k6, 8, .inl (fun _ => 0))), (q7, .inl (k8, 20, .inl (fun _ => 0)))] := hD
  have hK : va_K D vwCl [(k2, .int), (k4, .int), (k6, .int), (k8, .int)] s := hK
  refine va_putF (D := D) (ci := 3) (v := .ref q7) (ty := tyX3 3) (C := RX3) (T := TX3) (N := 13) hx hb hg inX3 tyX3 tyX3_ok nmX3 hown hK hP hD hS 0 rfl rfl 3 (by decide) (hg _ w507) (fun _ h9 => h9) rfl hin rfl (tyX3_ok 3 (by decide)) rfl rfl (Nat.le_of_ble_eq_true rfl) dX3_init_33 (fun H locs hP hD hS => ?_)
  have hP : va_P D vwCl [(h0, .inr (3, [.ref q1, .ref q3, .ref q5, .ref q7, .int 0, .int 0, .int 0, .int 0, .int 0, .int 0, .int 0, .int 0, .int 0])), (q1, .inl (k2, 8, .inl (fun _ => 0))), (q3, .inl (k4, 8, .inl (fun _ => 0))), (q5, .inl (k6, 8, .inl (fun _ => 0))), (q7, .inl (k8, 20, .inl (fun _ => 0)))] H := hP
  have hD : va_D A [(h0, .inr (3, [.ref q1, .ref q3, .ref q5, .ref q7, .int 0, .int 0, .int 0, .int 0, .int 0, .int 0, .int 0, .int 0, .int 0])), (q1, .inl (k2, 8, .inl (fun _ => 0))), (q3, .inl (k4, 8, .inl (fun _ => 0))), (q5, .inl (k6, 8, .inl (fun _ => 0))), (q7, .inl (k8, 20, .inl (fun _ => 0)))] := hD
  refine W.widen (k := 4) (n := 44) (Nat.le_of_ble_eq_true rfl) (Nat.le_of_ble_eq_true rfl) ?_
  have hP9 := hP.sub (ws' := [(h0, .inr (3, [.ref q1, .ref q3, .ref q5, .ref q7, .int 0, .int 0, .int 0, .int 0, .int 0, .int 0, .int 0, .int 0, .int 0])), (q1, .inl (k2, 8, .inl (fun _ => 0))), (q3, .inl (k4, 8, .inl (fun _ => 0))), (q5, .inl (k6, 8, .inl (fun _ => 0))), (q7, .inl (k8, 20, .inl (fun _ => 0)))]) [0, 1, 2, 3, 4] rfl
  have hD9 := hD.sub (ws' := [(h0, .inr (3, [.ref q1, .ref q3, .ref q5, .ref q7, .int 0, .int 0, .int 0, .int 0, .int 0, .int 0, .int 0, .int 0, .int 0])), (q1, .inl (k2, 8, .inl (fun _ => 0))), (q3, .inl (k4, 8, .inl (fun _ => 0))), (q5, .inl (k6, 8, .inl (fun _ => 0))), (q7, .inl (k8, 20, .inl (fun _ => 0)))]) [0, 1, 2, 3, 4] (by decide) rfl
  have hK9 := hK.sub (tys' := [(k2, .int), (k4, .int), (k6, .int), (k8, .int)]) [0, 1, 2, 3] rfl
  exact W.vret hx hb hr (fun t ht hW => ⟨⟨(q1, q3, q5, q7, k2, k4, k6, k8), rfl, (by first | rfl | trivial | assumption | decide), by rw [ht]; exact hP9, va_K.moved hW.alike hK9, hD9⟩, hS.F ht⟩) hS.2.2 dX3_init_36
abbrev r_c_Notes_init : Room := { frames := 1, cells := 5, slots := 900, locals := 20 }
abbrev q_c_Notes_init (D : va_G) (h0 : Nat) (A : Nat → Prop) : Array Value → State → Outcome → State → Prop := va_Qv (fun (u : Nat × Nat × Nat × Nat × Nat × ClassId × ClassId × ClassId × ClassId × ClassId) => True) (fun u t => gq D A ((fun (u : Nat × Nat × Nat × Nat × Nat × ClassId × ClassId × ClassId × ClassId × ClassId) => [(h0, .inr (7, [.ref u.1, .ref u.2.1, .ref u.2.2.1, .ref u.2.2.2.1, .ref u.2.2.2.2.1, .int 0, .int 0, .int 0, .int 0, .int 0])), (u.1, .inl (u.2.2.2.2.2.1, 100, .inl (fun _ => 0))), (u.2.1, .inl (u.2.2.2.2.2.2.1, 100, .inl (fun _ => 0))), (u.2.2.1, .inl (u.2.2.2.2.2.2.2.1, 100, .inl (fun _ => 0))), (u.2.2.2.1, .inl (u.2.2.2.2.2.2.2.2.1, 300, .inl (fun _ => 0))), (u.2.2.2.2.1, .inl (u.2.2.2.2.2.2.2.2.2, 300, .inl (fun _ => 0)))]) u) ((fun (u : Nat × Nat × Nat × Nat × Nat × ClassId × ClassId × ClassId × ClassId × ClassId) => ([(u.2.2.2.2.2.1, .int), (u.2.2.2.2.2.2.1, .int), (u.2.2.2.2.2.2.2.1, .int), (u.2.2.2.2.2.2.2.2.1, .int), (u.2.2.2.2.2.2.2.2.2, .int)] : List (ClassId × FieldType))) u) t) A
set_option maxHeartbeats 4000000 in
set_option maxRecDepth 100000 in
theorem c_Notes_init (l : Launch) (D : va_G) (ks : KS) (sz : Nat) (h0 : Nat) : Met l yX7_init (Cond.code yX7_init cX7_init 1 none :: GW) r_c_Notes_init (va_Pc [.ref h0] (gp D ks [(h0, .inr (7, [.null, .null, .null, .null, .null, .int 0, .int 0, .int 0, .int 0, .int 0]))] [] sz)) (q_c_Notes_init D h0 (va_A [(h0, .inr (7, [.null, .null, .null, .null, .null, .int 0, .int 0, .int 0, .int 0, .int 0]))] sz)) 5 900 (va_A [(h0, .inr (7, [.null, .null, .null, .null, .null, .int 0, .int 0, .int 0, .int 0, .int 0]))] sz) := by
  refine g_met (q_c_Notes_init D h0) (by decide) (Nat.le_of_ble_eq_true rfl) ?_
  intro p e s m below meth c A ls H locs hx hb hr hml hown hg hlocks hin hnw hgk hP hK hD hS hA hl
  have hown : s.vm.findClass RX7 = some m.cls := hown
  have hin : meth.name = "<init>" := hin
  have hl : lv_has ls 1 [(0, .ref h0)] := hl
  refine lv_aload_n hx hb dX7_init_0 rfl (lv_at hl 0 rfl) ?_
  refine W.objInit hx hb hown (hg _ w434) (hg _ w188) (hg _ wobj) rfl (by rw [hml]; exact hl.1) rfl dX7_init_1 (Nat.le_of_ble_eq_true rfl) (Nat.le_of_ble_eq_true rfl) ?_
  refine W.eq (g2 := F0 m 4 ls []) rfl ?_
  refine lv_aload_n hx hb dX7_init_4 rfl (lv_at hl 0 rfl) ?_
  refine lv_bipush (v := 100) hx hb dX7_init_5 (by decide) ?_
  refine va_newa (D := D) (atype := .int) (ty := .int) (n := 100) (N' := 100) (a0 := (100, .inl (fun _ => 0))) hx hb (hg _ w297) rfl hK hP hD hS hA (fun _ => rfl) (by decide) (by decide) (by decide) (Nat.le_of_ble_eq_true rfl) (Nat.le_of_ble_eq_true rfl) dX7_init_7 (fun q1 k2 H hK hP hD hS => ?_)
  have hP : va_P D vwCl [(h0, .inr (7, [.null, .null, .null, .null, .null, .int 0, .int 0, .int 0, .int 0, .int 0])), (q1, .inl (k2, 100, .inl (fun _ => 0)))] H := hP
  have hD : va_D A [(h0, .inr (7, [.null, .null, .null, .null, .null, .int 0, .int 0, .int 0, .int 0, .int 0])), (q1, .inl (k2, 100, .inl (fun _ => 0)))] := hD
  have hK : va_K D vwCl [(k2, .int)] s := hK
  refine va_putF (D := D) (ci := 7) (v := .ref q1) (ty := tyX7 0) (C := RX7) (T := TX7) (N := 10) hx hb hg inX7 tyX7 tyX7_ok nmX7 hown hK hP hD hS 0 rfl rfl 0 (by decide) (hg _ w435) (fun _ h9 => h9) rfl hin rfl (tyX7_ok 0 (by decide)) rfl rfl (Nat.le_of_ble_eq_true rfl) dX7_init_9 (fun H locs hP hD hS => ?_)
  have hP : va_P D vwCl [(h0, .inr (7, [.ref q1, .null, .null, .null, .null, .int 0, .int 0, .int 0, .int 0, .int 0])), (q1, .inl (k2, 100, .inl (fun _ => 0)))] H := hP
  have hD : va_D A [(h0, .inr (7, [.ref q1, .null, .null, .null, .null, .int 0, .int 0, .int 0, .int 0, .int 0])), (q1, .inl (k2, 100, .inl (fun _ => 0)))] := hD
  refine lv_aload_n hx hb dX7_init_12 rfl (lv_at hl 0 rfl) ?_
  refine lv_bipush (v := 100) hx hb dX7_init_13 (by decide) ?_
  refine va_newa (D := D) (atype := .int) (ty := .int) (n := 100) (N' := 100) (a0 := (100, .inl (fun _ => 0))) hx hb (hg _ w297) rfl hK hP hD hS hA (fun _ => rfl) (by decide) (by decide) (by decide) (Nat.le_of_ble_eq_true rfl) (Nat.le_of_ble_eq_true rfl) dX7_init_15 (fun q3 k4 H hK hP hD hS => ?_)
  have hP : va_P D vwCl [(h0, .inr (7, [.ref q1, .null, .null, .null, .null, .int 0, .int 0, .int 0, .int 0, .int 0])), (q1, .inl (k2, 100, .inl (fun _ => 0))), (q3, .inl (k4, 100, .inl (fun _ => 0)))] H := hP
  have hD : va_D A [(h0, .inr (7, [.ref q1, .null, .null, .null, .null, .int 0, .int 0, .int 0, .int 0, .int 0])), (q1, .inl (k2, 100, .inl (fun _ => 0))), (q3, .inl (k4, 100, .inl (fun _ => 0)))] := hD
  have hK : va_K D vwCl [(k2, .int), (k4, .int)] s := hK
  refine va_putF (D := D) (ci := 7) (v := .ref q3) (ty := tyX7 1) (C := RX7) (T := TX7) (N := 10) hx hb hg inX7 tyX7 tyX7_ok nmX7 hown hK hP hD hS 0 rfl rfl 1 (by decide) (hg _ w436) (fun _ h9 => h9) rfl hin rfl (tyX7_ok 1 (by decide)) rfl rfl (Nat.le_of_ble_eq_true rfl) dX7_init_17 (fun H locs hP hD hS => ?_)
  have hP : va_P D vwCl [(h0, .inr (7, [.ref q1, .ref q3, .null, .null, .null, .int 0, .int 0, .int 0, .int 0, .int 0])), (q1, .inl (k2, 100, .inl (fun _ => 0))), (q3, .inl (k4, 100, .inl (fun _ => 0)))] H := hP
  have hD : va_D A [(h0, .inr (7, [.ref q1, .ref q3, .null, .null, .null, .int 0, .int 0, .int 0, .int 0, .int 0])), (q1, .inl (k2, 100, .inl (fun _ => 0))), (q3, .inl (k4, 100, .inl (fun _ => 0)))] := hD
  refine lv_aload_n hx hb dX7_init_20 rfl (lv_at hl 0 rfl) ?_
  refine lv_bipush (v := 100) hx hb dX7_init_21 (by decide) ?_
  refine va_newa (D := D) (atype := .int) (ty := .int) (n := 100) (N' := 100) (a0 := (100, .inl (fun _ => 0))) hx hb (hg _ w297) rfl hK hP hD hS hA (fun _ => rfl) (by decide) (by decide) (by decide) (Nat.le_of_ble_eq_true rfl) (Nat.le_of_ble_eq_true rfl) dX7_init_23 (fun q5 k6 H hK hP hD hS => ?_)
  have hP : va_P D vwCl [(h0, .inr (7, [.ref q1, .ref q3, .null, .null, .null, .int 0, .int 0, .int 0, .int 0, .int 0])), (q1, .inl (k2, 100, .inl (fun _ => 0))), (q3, .inl (k4, 100, .inl (fun _ => 0))), (q5, .inl (k6, 100, .inl (fun _ => 0)))] H := hP
  have hD : va_D A [(h0, .inr (7, [.ref q1, .ref q3, .null, .null, .null, .int 0, .int 0, .int 0, .int 0, .int 0])), (q1, .inl (k2, 100, .inl (fun _ => 0))), (q3, .inl (k4, 100, .inl (fun _ => 0))), (q5, .inl (k6, 100, .inl (fun _ => 0)))] := hD
  have hK : va_K D vwCl [(k2, .int), (k4, .int), (k6, .int)] s := hK
  refine va_putF (D := D) (ci := 7) (v := .ref q5) (ty := tyX7 2) (C := RX7) (T := TX7) (N := 10) hx hb hg inX7 tyX7 tyX7_ok nmX7 hown hK hP hD hS 0 rfl rfl 2 (by decide) (hg _ w437) (fun _ h9 => h9) rfl hin rfl (tyX7_ok 2 (by decide)) rfl rfl (Nat.le_of_ble_eq_true rfl) dX7_init_25 (fun H locs hP hD hS => ?_)
  have hP : va_P D vwCl [(h0, .inr (7, [.ref q1, .ref q3, .ref q5, .null, .null, .int 0, .int 0, .int 0, .int 0, .int 0])), (q1, .inl (k2, 100, .inl (fun _ => 0))), (q3, .inl (k4, 100, .inl (fun _ => 0))), (q5, .inl (k6, 100, .inl (fun _ => 0)))] H := hP
  have hD : va_D A [(h0, .inr (7, [.ref q1, .ref q3, .ref q5, .null, .null, .int 0, .int 0, .int 0, .int 0, .int 0])), (q1, .inl (k2, 100, .inl (fun _ => 0))), (q3, .inl (k4, 100, .inl (fun _ => 0))), (q5, .inl (k6, 100, .inl (fun _ => 0)))] := hD
  refine lv_aload_n hx hb dX7_init_28 rfl (lv_at hl 0 rfl) ?_
  refine lv_sipush (v := 300) hx hb dX7_init_29 (by decide) ?_
  refine va_newa (D := D) (atype := .int) (ty := .int) (n := 300) (N' := 300) (a0 := (300, .inl (fun _ => 0))) hx hb (hg _ w297) rfl hK hP hD hS hA (fun _ => rfl) (by decide) (by decide) (by decide) (Nat.le_of_ble_eq_true rfl) (Nat.le_of_ble_eq_true rfl) dX7_init_32 (fun q7 k8 H hK hP hD hS => ?_)
  have hP : va_P D vwCl [(h0, .inr (7, [.ref q1, .ref q3, .ref q5, .null, .null, .int 0, .int 0, .int 0, .int 0, .int 0])), (q1, .inl (k2, 100, .inl (fun _ => 0))), (q3, .inl (k4, 100, .inl (fun _ => 0))), (q5, .inl (k6, 100, .inl (fun _ => 0))), (q7, .inl (k8, 300, .inl (fun _ => 0)))] H := hP
  have hD : va_D A [(h0, .inr (7, [.ref q1, .ref q3, .ref q5, .null, .null, .int 0, .int 0, .int 0, .int 0, .int 0])), (q1, .inl (k2, 100, .inl (fun _ => 0))), (q3, .inl (k4, 100, .inl (fun _ => 0))), (q5, .inl (k6, 100, .inl (fun _ => 0))), (q7, .inl (k8, 300, .inl (fun _ => 0)))] := hD
  have hK : va_K D vwCl [(k2, .int), (k4, .int), (k6, .int), (k8, .int)] s := hK
  refine va_putF (D := D) (ci := 7) (v := .ref q7) (ty := tyX7 3) (C := RX7) (T := TX7) (N := 10) hx hb hg inX7 tyX7 tyX7_ok nmX7 hown hK hP hD hS 0 rfl rfl 3 (by decide) (hg _ w438) (fun _ h9 => h9) rfl hin rfl (tyX7_ok 3 (by decide)) rfl rfl (Nat.le_of_ble_eq_true rfl) dX7_init_34 (fun H locs hP hD hS => ?_)
  have hP : va_P D vwCl [(h0, .inr (7, [.ref q1, .ref q3, .ref q5, .ref q7, .null, .int 0, .int 0, .int 0, .int 0, .int 0])), (q1, .inl (k2, 100, .inl (fun _ => 0))), (q3, .inl (k4, 100, .inl (fun _ => 0))), (q5, .inl (k6, 100, .inl (fun _ => 0))), (q7, .inl (k8, 300, .inl (fun _ => 0)))] H := hP
  have hD : va_D A [(h0, .inr (7, [.ref q1, .ref q3, .ref q5, .ref q7, .null, .int 0, .int 0, .int 0, .int 0, .int 0])), (q1, .inl (k2, 100, .inl (fun _ => 0))), (q3, .inl (k4, 100, .inl (fun _ => 0))), (q5, .inl (k6, 100, .inl (fun _ => 0))), (q7, .inl (k8, 300, .inl (fun _ => 0)))] := hD
  refine lv_aload_n hx hb dX7_init_37 rfl (lv_at hl 0 rfl) ?_
  refine lv_sipush (v := 300) hx hb dX7_init_38 (by decide) ?_
  refine va_newa (D := D) (atype := .int) (ty := .int) (n := 300) (N' := 300) (a0 := (300, .inl (fun _ => 0))) hx hb (hg _ w297) rfl hK hP hD hS hA (fun _ => rfl) (by decide) (by decide) (by decide) (Nat.le_of_ble_eq_true rfl) (Nat.le_of_ble_eq_true rfl) dX7_init_41 (fun q9 k10 H hK hP hD hS => ?_)
  have hP : va_P D vwCl [(h0, .inr (7, [.ref q1, .ref q3, .ref q5, .ref q7, .null, .int 0, .int 0, .int 0, .int 0, .int 0])), (q1, .inl (k2, 100, .inl (fun _ => 0))), (q3, .inl (k4, 100, .inl (fun _ => 0))), (q5, .inl (k6, 100, .inl (fun _ => 0))), (q7, .inl (k8, 300, .inl (fun _ => 0))), (q9, .inl (k10, 300, .inl (fun _ => 0)))] H := hP
  have hD : va_D A [(h0, .inr (7, [.ref q1, .ref q3, .ref q5, .ref q7, .null, .int 0, .int 0, .int 0, .int 0, .int 0])), (q1, .inl (k2, 100, .inl (fun _ => 0))), (q3, .inl (k4, 100, .inl (fun _ => 0))), (q5, .inl (k6, 100, .inl (fun _ => 0))), (q7, .inl (k8, 300, .inl (fun _ => 0))), (q9, .inl (k10, 300, .inl (fun _ => 0)))] := hD
  have hK : va_K D vwCl [(k2, .int), (k4, .int), (k6, .int), (k8, .int), (k10, .int)] s := hK
  refine va_putF (D := D) (ci := 7) (v := .ref q9) (ty := tyX7 4) (C := RX7) (T := TX7) (N := 10) hx hb hg inX7 tyX7 tyX7_ok nmX7 hown hK hP hD hS 0 rfl rfl 4 (by decide) (hg _ w439) (fun _ h9 => h9) rfl hin rfl (tyX7_ok 4 (by decide)) rfl rfl (Nat.le_of_ble_eq_true rfl) dX7_init_43 (fun H locs hP hD hS => ?_)
  have hP : va_P D vwCl [(h0, .inr (7, [.ref q1, .ref q3, .ref q5, .ref q7, .ref q9, .int 0, .int 0, .int 0, .int 0, .int 0])), (q1, .inl (k2, 100, .inl (fun _ => 0))), (q3, .inl (k4, 100, .inl (fun _ => 0))), (q5, .inl (k6, 100, .inl (fun _ => 0))), (q7, .inl (k8, 300, .inl (fun _ => 0))), (q9, .inl (k10, 300, .inl (fun _ => 0)))] H := hP
  have hD : va_D A [(h0, .inr (7, [.ref q1, .ref q3, .ref q5, .ref q7, .ref q9, .int 0, .int 0, .int 0, .int 0, .int 0])), (q1, .inl (k2, 100, .inl (fun _ => 0))), (q3, .inl (k4, 100, .inl (fun _ => 0))), (q5, .inl (k6, 100, .inl (fun _ => 0))), (q7, .inl (k8, 300, .inl (fun _ => 0))), (q9, .inl (k10, 300, .inl (fun _ => 0)))] := hD
  refine W.widen (k := 5) (n := 900) (Nat.le_of_ble_eq_true rfl) (Nat.le_of_ble_eq_true rfl) ?_
  have hP9 := hP.sub (ws' := [(h0, .inr (7, [.ref q1, .ref q3, .ref q5, .ref q7, .ref q9, .int 0, .int 0, .int 0, .int 0, .int 0])), (q1, .inl (k2, 100, .inl (fun _ => 0))), (q3, .inl (k4, 100, .inl (fun _ => 0))), (q5, .inl (k6, 100, .inl (fun _ => 0))), (q7, .inl (k8, 300, .inl (fun _ => 0))), (q9, .inl (k10, 300, .inl (fun _ => 0)))]) [0, 1, 2, 3, 4, 5] rfl
  have hD9 := hD.sub (ws' := [(h0, .inr (7, [.ref q1, .ref q3, .ref q5, .ref q7, .ref q9, .int 0, .int 0, .int 0, .int 0, .int 0])), (q1, .inl (k2, 100, .inl (fun _ => 0))), (q3, .inl (k4, 100, .inl (fun _ => 0))), (q5, .inl (k6, 100, .inl (fun _ => 0))), (q7, .inl (k8, 300, .inl (fun _ => 0))), (q9, .inl (k10, 300, .inl (fun _ => 0)))]) [0, 1, 2, 3, 4, 5] (by decide) rfl
  have hK9 := hK.sub (tys' := [(k2, .int), (k4, .int), (k6, .int), (k8, .int), (k10, .int)]) [0, 1, 2, 3, 4] rfl
  exact W.vret hx hb hr (fun t ht hW => ⟨⟨(q1, q3, q5, q7, q9, k2, k4, k6, k8, k10), rfl, (by first | rfl | trivial | assumption | decide), by rw [ht]; exact hP9, va_K.moved hW.alike hK9, hD9⟩, hS.F ht⟩) hS.2.2 dX7_init_46
abbrev r_c_Checker_init : Room := { frames := 1, cells := 6, slots := 2748, locals := 20 }
abbrev q_c_Checker_init (D : va_G) (h0 : Nat) (A : Nat → Prop) : Array Value → State → Outcome → State → Prop := va_Qv (fun (u : Nat × Nat × Nat × Nat × Nat × Nat × ClassId × ClassId × ClassId × ClassId × ClassId × ClassId) => True) (fun u t => gq D A ((fun (u : Nat × Nat × Nat × Nat × Nat × Nat × ClassId × ClassId × ClassId × ClassId × ClassId × ClassId) => [(h0, .inr (2, [.ref u.1, .ref u.2.1, .ref u.2.2.1, .ref u.2.2.2.1, .ref u.2.2.2.2.1, .ref u.2.2.2.2.2.1, .null, .int 0])), (u.1, .inl (u.2.2.2.2.2.2.1, 100, .inl (fun _ => 0))), (u.2.1, .inl (u.2.2.2.2.2.2.2.1, 100, .inl (fun _ => 0))), (u.2.2.1, .inl (u.2.2.2.2.2.2.2.2.1, 100, .inl (fun _ => 0))), (u.2.2.2.1, .inl (u.2.2.2.2.2.2.2.2.2.1, 2400, .inl (fun _ => 0))), (u.2.2.2.2.1, .inl (u.2.2.2.2.2.2.2.2.2.2.1, 24, .inl (fun _ => 0))), (u.2.2.2.2.2.1, .inl (u.2.2.2.2.2.2.2.2.2.2.2, 24, .inl (fun _ => 0)))]) u) ((fun (u : Nat × Nat × Nat × Nat × Nat × Nat × ClassId × ClassId × ClassId × ClassId × ClassId × ClassId) => ([(u.2.2.2.2.2.2.1, .int), (u.2.2.2.2.2.2.2.1, .int), (u.2.2.2.2.2.2.2.2.1, .int), (u.2.2.2.2.2.2.2.2.2.1, .int), (u.2.2.2.2.2.2.2.2.2.2.1, .int), (u.2.2.2.2.2.2.2.2.2.2.2, .int)] : List (ClassId × FieldType))) u) t) A
set_option maxHeartbeats 4000000 in
set_option maxRecDepth 100000 in
theorem c_Checker_init (l : Launch) (D : va_G) (ks : KS) (sz : Nat) (h0 : Nat) : Met l yX2_init (Cond.code yX2_init cX2_init 1 none :: GW) r_c_Checker_init (va_Pc [.ref h0] (gp D ks [(h0, .inr (2, [.null, .null, .null, .null, .null, .null, .null, .int 0]))] [] sz)) (q_c_Checker_init D h0 (va_A [(h0, .inr (2, [.null, .null, .null, .null, .null, .null, .null, .int 0]))] sz)) 6 2748 (va_A [(h0, .inr (2, [.null, .null, .null, .null, .null, .null, .null, .int 0]))] sz) := by
  refine g_met (q_c_Checker_init D h0) (by decide) (Nat.le_of_ble_eq_true rfl) ?_
  intro p e s m below meth c A ls H locs hx hb hr hml hown hg hlocks hin hnw hgk hP hK hD hS hA hl
  have hown : s.vm.findClass RX2 = some m.cls := hown
  have hin : meth.name = "<init>" := hin
  have hl : lv_has ls 1 [(0, .ref h0)] := hl
  refine lv_aload_n hx hb dX2_init_0 rfl (lv_at hl 0 rfl) ?_
  refine W.objInit hx hb hown (hg _ w337) (hg _ w188) (hg _ wobj) rfl (by rw [hml]; exact hl.1) rfl dX2_init_1 (Nat.le_of_ble_eq_true rfl) (Nat.le_of_ble_eq_true rfl) ?_
  refine W.eq (g2 := F0 m 4 ls []) rfl ?_
  refine lv_aload_n hx hb dX2_init_4 rfl (lv_at hl 0 rfl) ?_
  refine lv_bipush (v := 100) hx hb dX2_init_5 (by decide) ?_
  refine va_newa (D := D) (atype := .int) (ty := .int) (n := 100) (N' := 100) (a0 := (100, .inl (fun _ => 0))) hx hb (hg _ w297) rfl hK hP hD hS hA (fun _ => rfl) (by decide) (by decide) (by decide) (Nat.le_of_ble_eq_true rfl) (Nat.le_of_ble_eq_true rfl) dX2_init_7 (fun q1 k2 H hK hP hD hS => ?_)
  have hP : va_P D vwCl [(h0, .inr (2, [.null, .null, .null, .null, .null, .null, .null, .int 0])), (q1, .inl (k2, 100, .inl (fun _ => 0)))] H := hP
  have hD : va_D A [(h0, .inr (2, [.null, .null, .null, .null, .null, .null, .null, .int 0])), (q1, .inl (k2, 100, .inl (fun _ => 0)))] := hD
  have hK : va_K D vwCl [(k2, .int)] s := hK
  refine va_putF (D := D) (ci := 2) (v := .ref q1) (ty := tyX2 0) (C := RX2) (T := TX2) (N := 8) hx hb hg inX2 tyX2 tyX2_ok nmX2 hown hK hP hD hS 0 rfl rfl 0 (by decide) (hg _ w338) (fun _ h9 => h9) rfl hin rfl (tyX2_ok 0 (by decide)) rfl rfl (Nat.le_of_ble_eq_true rfl) dX2_init_9 (fun H locs hP hD hS => ?_)
  have hP : va_P D vwCl [(h0, .inr (2, [.ref q1, .null, .null, .null, .null, .null, .null, .int 0])), (q1, .inl (k2, 100, .inl (fun _ => 0)))] H := hP
  have hD : va_D A [(h0, .inr (2, [.ref q1, .null, .null, .null, .null, .null, .null, .int 0])), (q1, .inl (k2, 100, .inl (fun _ => 0)))] := hD
  refine lv_aload_n hx hb dX2_init_12 rfl (lv_at hl 0 rfl) ?_
  refine lv_bipush (v := 100) hx hb dX2_init_13 (by decide) ?_
  refine va_newa (D := D) (atype := .int) (ty := .int) (n := 100) (N' := 100) (a0 := (100, .inl (fun _ => 0))) hx hb (hg _ w297) rfl hK hP hD hS hA (fun _ => rfl) (by decide) (by decide) (by decide) (Nat.le_of_ble_eq_true rfl) (Nat.le_of_ble_eq_true rfl) dX2_init_15 (fun q3 k4 H hK hP hD hS => ?_)
  have hP : va_P D vwCl [(h0, .inr (2, [.ref q1, .null, .null, .null, .null, .null, .null, .int 0])), (q1, .inl (k2, 100, .inl (fun _ => 0))), (q3, .inl (k4, 100, .inl (fun _ => 0)))] H := hP
  have hD : va_D A [(h0, .inr (2, [.ref q1, .null, .null, .null, .null, .null, .null, .int 0])), (q1, .inl (k2, 100, .inl (fun _ => 0))), (q3, .inl (k4, 100, .inl (fun _ => 0)))] := hD
  have hK : va_K D vwCl [(k2, .int), (k4, .int)] s := hK
  refine va_putF (D := D) (ci := 2) (v := .ref q3) (ty := tyX2 1) (C := RX2) (T := TX2) (N := 8) hx hb hg inX2 tyX2 tyX2_ok nmX2 hown hK hP hD hS 0 rfl rfl 1 (by decide) (hg _ w339) (fun _ h9 => h9) rfl hin rfl (tyX2_ok 1 (by decide)) rfl rfl (Nat.le_of_ble_eq_true rfl) dX2_init_17 (fun H locs hP hD hS => ?_)
  have hP : va_P D vwCl [(h0, .inr (2, [.ref q1, .ref q3, .null, .null, .null, .null, .null, .int 0])), (q1, .inl (k2, 100, .inl (fun _ => 0))), (q3, .inl (k4, 100, .inl (fun _ => 0)))] H := hP
  have hD : va_D A [(h0, .inr (2, [.ref q1, .ref q3, .null, .null, .null, .null, .null, .int 0])), (q1, .inl (k2, 100, .inl (fun _ => 0))), (q3, .inl (k4, 100, .inl (fun _ => 0)))] := hD
  refine lv_aload_n hx hb dX2_init_20 rfl (lv_at hl 0 rfl) ?_
  refine lv_bipush (v := 100) hx hb dX2_init_21 (by decide) ?_
  refine va_newa (D := D) (atype := .int) (ty := .int) (n := 100) (N' := 100) (a0 := (100, .inl (fun _ => 0))) hx hb (hg _ w297) rfl hK hP hD hS hA (fun _ => rfl) (by decide) (by decide) (by decide) (Nat.le_of_ble_eq_true rfl) (Nat.le_of_ble_eq_true rfl) dX2_init_23 (fun q5 k6 H hK hP hD hS => ?_)
  have hP : va_P D vwCl [(h0, .inr (2, [.ref q1, .ref q3, .null, .null, .null, .null, .null, .int 0])), (q1, .inl (k2, 100, .inl (fun _ => 0))), (q3, .inl (k4, 100, .inl (fun _ => 0))), (q5, .inl (k6, 100, .inl (fun _ => 0)))] H := hP
  have hD : va_D A [(h0, .inr (2, [.ref q1, .ref q3, .null, .null, .null, .null, .null, .int 0])), (q1, .inl (k2, 100, .inl (fun _ => 0))), (q3, .inl (k4, 100, .inl (fun _ => 0))), (q5, .inl (k6, 100, .inl (fun _ => 0)))] := hD
  have hK : va_K D vwCl [(k2, .int), (k4, .int), (k6, .int)] s := hK
  refine va_putF (D := D) (ci := 2) (v := .ref q5) (ty := tyX2 2) (C := RX2) (T := TX2) (N := 8) hx hb hg inX2 tyX2 tyX2_ok nmX2 hown hK hP hD hS 0 rfl rfl 2 (by decide) (hg _ w340) (fun _ h9 => h9) rfl hin rfl (tyX2_ok 2 (by decide)) rfl rfl (Nat.le_of_ble_eq_true rfl) dX2_init_25 (fun H locs hP hD hS => ?_)
  have hP : va_P D vwCl [(h0, .inr (2, [.ref q1, .ref q3, .ref q5, .null, .null, .null, .null, .int 0])), (q1, .inl (k2, 100, .inl (fun _ => 0))), (q3, .inl (k4, 100, .inl (fun _ => 0))), (q5, .inl (k6, 100, .inl (fun _ => 0)))] H := hP
  have hD : va_D A [(h0, .inr (2, [.ref q1, .ref q3, .ref q5, .null, .null, .null, .null, .int 0])), (q1, .inl (k2, 100, .inl (fun _ => 0))), (q3, .inl (k4, 100, .inl (fun _ => 0))), (q5, .inl (k6, 100, .inl (fun _ => 0)))] := hD
  refine lv_aload_n hx hb dX2_init_28 rfl (lv_at hl 0 rfl) ?_
  refine lv_sipush (v := 2400) hx hb dX2_init_29 (by decide) ?_
  refine va_newa (D := D) (atype := .int) (ty := .int) (n := 2400) (N' := 2400) (a0 := (2400, .inl (fun _ => 0))) hx hb (hg _ w297) rfl hK hP hD hS hA (fun _ => rfl) (by decide) (by decide) (by decide) (Nat.le_of_ble_eq_true rfl) (Nat.le_of_ble_eq_true rfl) dX2_init_32 (fun q7 k8 H hK hP hD hS => ?_)
  have hP : va_P D vwCl [(h0, .inr (2, [.ref q1, .ref q3, .ref q5, .null, .null, .null, .null, .int 0])), (q1, .inl (k2, 100, .inl (fun _ => 0))), (q3, .inl (k4, 100, .inl (fun _ => 0))), (q5, .inl (k6, 100, .inl (fun _ => 0))), (q7, .inl (k8, 2400, .inl (fun _ => 0)))] H := hP
  have hD : va_D A [(h0, .inr (2, [.ref q1, .ref q3, .ref q5, .null, .null, .null, .null, .int 0])), (q1, .inl (k2, 100, .inl (fun _ => 0))), (q3, .inl (k4, 100, .inl (fun _ => 0))), (q5, .inl (k6, 100, .inl (fun _ => 0))), (q7, .inl (k8, 2400, .inl (fun _ => 0)))] := hD
  have hK : va_K D vwCl [(k2, .int), (k4, .int), (k6, .int), (k8, .int)] s := hK
  refine va_putF (D := D) (ci := 2) (v := .ref q7) (ty := tyX2 3) (C := RX2) (T := TX2) (N := 8) hx hb hg inX2 tyX2 tyX2_ok nmX2 hown hK hP hD hS 0 rfl rfl 3 (by decide) (hg _ w341) (fun _ h9 => h9) rfl hin rfl (tyX2_ok 3 (by decide)) rfl rfl (Nat.le_of_ble_eq_true rfl) dX2_init_34 (fun H locs hP hD hS => ?_)
  have hP : va_P D vwCl [(h0, .inr (2, [.ref q1, .ref q3, .ref q5, .ref q7, .null, .null, .null, .int 0])), (q1, .inl (k2, 100, .inl (fun _ => 0))), (q3, .inl (k4, 100, .inl (fun _ => 0))), (q5, .inl (k6, 100, .inl (fun _ => 0))), (q7, .inl (k8, 2400, .inl (fun _ => 0)))] H := hP
  have hD : va_D A [(h0, .inr (2, [.ref q1, .ref q3, .ref q5, .ref q7, .null, .null, .null, .int 0])), (q1, .inl (k2, 100, .inl (fun _ => 0))), (q3, .inl (k4, 100, .inl (fun _ => 0))), (q5, .inl (k6, 100, .inl (fun _ => 0))), (q7, .inl (k8, 2400, .inl (fun _ => 0)))] := hD
  refine lv_aload_n hx hb dX2_init_37 rfl (lv_at hl 0 rfl) ?_
  refine lv_bipush (v := 24) hx hb dX2_init_38 (by decide) ?_
  refine va_newa (D := D) (atype := .int) (ty := .int) (n := 24) (N' := 24) (a0 := (24, .inl (fun _ => 0))) hx hb (hg _ w297) rfl hK hP hD hS hA (fun _ => rfl) (by decide) (by decide) (by decide) (Nat.le_of_ble_eq_true rfl) (Nat.le_of_ble_eq_true rfl) dX2_init_40 (fun q9 k10 H hK hP hD hS => ?_)
  have hP : va_P D vwCl [(h0, .inr (2, [.ref q1, .ref q3, .ref q5, .ref q7, .null, .null, .null, .int 0])), (q1, .inl (k2, 100, .inl (fun _ => 0))), (q3, .inl (k4, 100, .inl (fun _ => 0))), (q5, .inl (k6, 100, .inl (fun _ => 0))), (q7, .inl (k8, 2400, .inl (fun _ => 0))), (q9, .inl (k10, 24, .inl (fun _ => 0)))] H := hP
  have hD : va_D A [(h0, .inr (2, [.ref q1, .ref q3, .ref q5, .ref q7, .null, .null, .null, .int 0])), (q1, .inl (k2, 100, .inl (fun _ => 0))), (q3, .inl (k4, 100, .inl (fun _ => 0))), (q5, .inl (k6, 100, .inl (fun _ => 0))), (q7, .inl (k8, 2400, .inl (fun _ => 0))), (q9, .inl (k10, 24, .inl (fun _ => 0)))] := hD
  have hK : va_K D vwCl [(k2, .int), (k4, .int), (k6, .int), (k8, .int), (k10, .int)] s := hK
  refine va_putF (D := D) (ci := 2) (v := .ref q9) (ty := tyX2 4) (C := RX2) (T := TX2) (N := 8) hx hb hg inX2 tyX2 tyX2_ok nmX2 hown hK hP hD hS 0 rfl rfl 4 (by decide) (hg _ w342) (fun _ h9 => h9) rfl hin rfl (tyX2_ok 4 (by decide)) rfl rfl (Nat.le_of_ble_eq_true rfl) dX2_init_42 (fun H locs hP hD hS => ?_)
  have hP : va_P D vwCl [(h0, .inr (2, [.ref q1, .ref q3, .ref q5, .ref q7, .ref q9, .null, .null, .int 0])), (q1, .inl (k2, 100, .inl (fun _ => 0))), (q3, .inl (k4, 100, .inl (fun _ => 0))), (q5, .inl (k6, 100, .inl (fun _ => 0))), (q7, .inl (k8, 2400, .inl (fun _ => 0))), (q9, .inl (k10, 24, .inl (fun _ => 0)))] H := hP
  have hD : va_D A [(h0, .inr (2, [.ref q1, .ref q3, .ref q5, .ref q7, .ref q9, .null, .null, .int 0])), (q1, .inl (k2, 100, .inl (fun _ => 0))), (q3, .inl (k4, 100, .inl (fun _ => 0))), (q5, .inl (k6, 100, .inl (fun _ => 0))), (q7, .inl (k8, 2400, .inl (fun _ => 0))), (q9, .inl (k10, 24, .inl (fun _ => 0)))] := hD
  refine lv_aload_n hx hb dX2_init_45 rfl (lv_at hl 0 rfl) ?_
  refine lv_bipush (v := 24) hx hb dX2_init_46 (by decide) ?_
  refine va_newa (D := D) (atype := .int) (ty := .int) (n := 24) (N' := 24) (a0 := (24, .inl (fun _ => 0))) hx hb (hg _ w297) rfl hK hP hD hS hA (fun _ => rfl) (by decide) (by decide) (by decide) (Nat.le_of_ble_eq_true rfl) (Nat.le_of_ble_eq_true rfl) dX2_init_48 (fun q11 k12 H hK hP hD hS => ?_)
  have hP : va_P D vwCl [(h0, .inr (2, [.ref q1, .ref q3, .ref q5, .ref q7, .ref q9, .null, .null, .int 0])), (q1, .inl (k2, 100, .inl (fun _ => 0))), (q3, .inl (k4, 100, .inl (fun _ => 0))), (q5, .inl (k6, 100, .inl (fun _ => 0))), (q7, .inl (k8, 2400, .inl (fun _ => 0))), (q9, .inl (k10, 24, .inl (fun _ => 0))), (q11, .inl (k12, 24, .inl (fun _ => 0)))] H := hP
  have hD : va_D A [(h0, .inr (2, [.ref q1, .ref q3, .ref q5, .ref q7, .ref q9, .null, .null, .int 0])), (q1, .inl (k2, 100, .inl (fun _ => 0))), (q3, .inl (k4, 100, .inl (fun _ => 0))), (q5, .inl (k6, 100, .inl (fun _ => 0))), (q7, .inl (k8, 2400, .inl (fun _ => 0))), (q9, .inl (k10, 24, .inl (fun _ => 0))), (q11, .inl (k12, 24, .inl (fun _ => 0)))] := hD
  have hK : va_K D vwCl [(k2, .int), (k4, .int), (k6, .int), (k8, .int), (k10, .int), (k12, .int)] s := hK
  refine va_putF (D := D) (ci := 2) (v := .ref q11) (ty := tyX2 5) (C := RX2) (T := TX2) (N := 8) hx hb hg inX2 tyX2 tyX2_ok nmX2 hown hK hP hD hS 0 rfl rfl 5 (by decide) (hg _ w343) (fun _ h9 => h9) rfl hin rfl (tyX2_ok 5 (by decide)) rfl rfl (Nat.le_of_ble_eq_true rfl) dX2_init_50 (fun H locs hP hD hS => ?_)
  have hP : va_P D vwCl [(h0, .inr (2, [.ref q1, .ref q3, .ref q5, .ref q7, .ref q9, .ref q11, .null, .int 0])), (q1, .inl (k2, 100, .inl (fun _ => 0))), (q3, .inl (k4, 100, .inl (fun _ => 0))), (q5, .inl (k6, 100, .inl (fun _ => 0))), (q7, .inl (k8, 2400, .inl (fun _ => 0))), (q9, .inl (k10, 24, .inl (fun _ => 0))), (q11, .inl (k12, 24, .inl (fun _ => 0)))] H := hP
  have hD : va_D A [(h0, .inr (2, [.ref q1, .ref q3, .ref q5, .ref q7, .ref q9, .ref q11, .null, .int 0])), (q1, .inl (k2, 100, .inl (fun _ => 0))), (q3, .inl (k4, 100, .inl (fun _ => 0))), (q5, .inl (k6, 100, .inl (fun _ => 0))), (q7, .inl (k8, 2400, .inl (fun _ => 0))), (q9, .inl (k10, 24, .inl (fun _ => 0))), (q11, .inl (k12, 24, .inl (fun _ => 0)))] := hD
  refine W.widen (k := 6) (n := 2748) (Nat.le_of_ble_eq_true rfl) (Nat.le_of_ble_eq_true rfl) ?_
  have hP9 := hP.sub (ws' := [(h0, .inr (2, [.ref q1, .ref q3, .ref q5, .ref q7, .ref q9, .ref q11, .null, .int 0])), (q1, .inl (k2, 100, .inl (fun _ => 0))), (q3, .inl (k4, 100, .inl (fun _ => 0))), (q5, .inl (k6, 100, .inl (fun _ => 0))), (q7, .inl (k8, 2400, .inl (fun _ => 0))), (q9, .inl (k10, 24, .inl (fun _ => 0))), (q11, .inl (k12, 24, .inl (fun _ => 0)))]) [0, 1, 2, 3, 4, 5, 6] rfl
  have hD9 := hD.sub (ws' := [(h0, .inr (2, [.ref q1, .ref q3, .ref q5, .ref q7, .ref q9, .ref q11, .null, .int 0])), (q1, .inl (k2, 100, .inl (fun _ => 0))), (q3, .inl (k4, 100, .inl (fun _ => 0))), (q5, .inl (k6, 100, .inl (fun _ => 0))), (q7, .inl (k8, 2400, .inl (fun _ => 0))), (q9, .inl (k10, 24, .inl (fun _ => 0))), (q11, .inl (k12, 24, .inl (fun _ => 0)))]) [0, 1, 2, 3, 4, 5, 6] (by decide) rfl
  have hK9 := hK.sub (tys' := [(k2, .int), (k4, .int), (k6, .int), (k8, .int), (k10, .int), (k12, .int)]) [0, 1, 2, 3, 4, 5] rfl
  exact W.vret hx hb hr (fun t ht hW => ⟨⟨(q1, q3, q5, q7, q9, q11, k2, k4, k6, k8, k10, k12), rfl, (by first | rfl | trivial | assumption | decide), by rw [ht]; exact hP9, va_K.moved hW.alike hK9, hD9⟩, hS.F ht⟩) hS.2.2 dX2_init_53
abbrev r_c_Reader_init : Room := { frames := 1, cells := 0, slots := 0, locals := 20 }
abbrev q_c_Reader_init (D : va_G) (h0 : Nat) (ht : Nat) (A : Nat → Prop) : Array Value → State → Outcome → State → Prop := va_Qv (fun (_ : Unit) => True) (fun u t => gq D A ((fun (_ : Unit) => [(h0, .inr (1, [.ref ht, .null, .null, .int 0, .int 0, .long 0, .int 0, .int 0, .int 0]))]) u) ((fun (_ : Unit) => ([] : List (ClassId × FieldType))) u) t) A
set_option maxHeartbeats 4000000 in
set_option maxRecDepth 100000 in
theorem c_Reader_init (l : Launch) (D : va_G) (ks : KS) (sz : Nat) (h0 : Nat) (ht : Nat) : Met l yX1_init (Cond.code yX1_init cX1_init 2 none :: GW) r_c_Reader_init (va_Pc [.ref h0, .ref ht] (gp D ks [(h0, .inr (1, [.null, .null, .null, .int 0, .int 0, .long 0, .int 0, .int 0, .int 0]))] [] sz)) (q_c_Reader_init D h0 ht (va_A [(h0, .inr (1, [.null, .null, .null, .int 0, .int 0, .long 0, .int 0, .int 0, .int 0]))] sz)) 0 0 (va_A [(h0, .inr (1, [.null, .null, .null, .int 0, .int 0, .long 0, .int 0, .int 0, .int 0]))] sz) := by
  refine g_met (q_c_Reader_init D h0 ht) (by decide) (Nat.le_of_ble_eq_true rfl) ?_
  intro p e s m below meth c A ls H locs hx hb hr hml hown hg hlocks hin hnw hgk hP hK hD hS hA hl
  have hown : s.vm.findClass RX1 = some m.cls := hown
  have hin : meth.name = "<init>" := hin
  have hl : lv_has ls 2 [(0, .ref h0), (1, .ref ht)] := hl
  refine lv_aload_n hx hb dX1_init_0 rfl (lv_at hl 0 rfl) ?_
  refine W.objInit hx hb hown (hg _ w303) (hg _ w188) (hg _ wobj) rfl (by rw [hml]; exact hl.1) rfl dX1_init_1 (Nat.le_of_ble_eq_true rfl) (Nat.le_of_ble_eq_true rfl) ?_
  refine W.eq (g2 := F0 m 4 ls []) rfl ?_
  refine lv_aload_n hx hb dX1_init_4 rfl (lv_at hl 0 rfl) ?_
  refine lv_aload_n hx hb dX1_init_5 rfl (lv_at hl 1 rfl) ?_
  refine va_putF (D := D) (ci := 1) (v := .ref ht) (ty := tyX1 0) (C := RX1) (T := TX1) (N := 9) hx hb hg inX1 tyX1 tyX1_ok nmX1 hown hK hP hD hS 0 rfl rfl 0 (by decide) (hg _ w304) (fun _ h9 => h9) rfl hin rfl (tyX1_ok 0 (by decide)) rfl rfl (Nat.le_of_ble_eq_true rfl) dX1_init_6 (fun H locs hP hD hS => ?_)
  have hP : va_P D vwCl [(h0, .inr (1, [.ref ht, .null, .null, .int 0, .int 0, .long 0, .int 0, .int 0, .int 0]))] H := hP
  have hD : va_D A [(h0, .inr (1, [.ref ht, .null, .null, .int 0, .int 0, .long 0, .int 0, .int 0, .int 0]))] := hD
  refine W.widen (k := 0) (n := 0) (Nat.le_of_ble_eq_true rfl) (Nat.le_of_ble_eq_true rfl) ?_
  have hP9 := hP.sub (ws' := [(h0, .inr (1, [.ref ht, .null, .null, .int 0, .int 0, .long 0, .int 0, .int 0, .int 0]))]) [0] rfl
  have hD9 := hD.sub (ws' := [(h0, .inr (1, [.ref ht, .null, .null, .int 0, .int 0, .long 0, .int 0, .int 0, .int 0]))]) [0] (by decide) rfl
  have hK9 := hK.sub (tys' := []) [] rfl
  exact W.vret hx hb hr (fun t ht hW => ⟨⟨(), rfl, (by first | rfl | trivial | assumption | decide), by rw [ht]; exact hP9, va_K.moved hW.alike hK9, hD9⟩, hS.F ht⟩) hS.2.2 dX1_init_9
abbrev r_c_Machine_init : Room := { frames := 1, cells := 3, slots := 2748, locals := 20 }
abbrev q_c_Machine_init (D : va_G) (h0 : Nat) (x1 : Nat) (x2 : Nat) (x3 : Nat) (A : Nat → Prop) : Array Value → State → Outcome → State → Prop := va_Qv (fun (u : Nat × Nat × Nat × ClassId × ClassId × ClassId) => True) (fun u t => gq D A ((fun (u : Nat × Nat × Nat × ClassId × ClassId × ClassId) => [(h0, .inr (5, [.ref x2, .ref x3, .ref u.1, .ref u.2.1, .ref u.2.2.1, .ref x1, .int 0, .int 0, .int 0, .int 0, .int 0, .int 0, .int 0, .int 0, .int 0])), (u.1, .inl (u.2.2.2.1, 400, .inr (.inr (.inr (.inr (fun _ => none)))))), (u.2.1, .inl (u.2.2.2.2.1, 2048, .inl (fun _ => 0))), (u.2.2.1, .inl (u.2.2.2.2.2, 300, .inl (fun _ => 0)))]) u) ((fun (u : Nat × Nat × Nat × ClassId × ClassId × ClassId) => ([(u.2.2.2.1, .object RX4), (u.2.2.2.2.1, .int), (u.2.2.2.2.2, .int)] : List (ClassId × FieldType))) u) t) A
set_option maxHeartbeats 4000000 in
set_option maxRecDepth 100000 in
theorem c_Machine_init (l : Launch) (D : va_G) (ks : KS) (sz : Nat) (h0 : Nat) (x1 : Nat) (x2 : Nat) (x3 : Nat) : Met l yX5_init (Cond.code yX5_init cX5_init 4 none :: GW) r_c_Machine_init (va_Pc [.ref h0, .ref x1, .ref x2, .ref x3] (gp D ks [(h0, .inr (5, [.null, .null, .null, .null, .null, .null, .int 0, .int 0, .int 0, .int 0, .int 0, .int 0, .int 0, .int 0, .int 0]))] [] sz)) (q_c_Machine_init D h0 x1 x2 x3 (va_A [(h0, .inr (5, [.null, .null, .null, .null, .null, .null, .int 0, .int 0, .int 0, .int 0, .int 0, .int 0, .int 0, .int 0, .int 0]))] sz)) 3 2748 (va_A [(h0, .inr (5, [.null, .null, .null, .null, .null, .null, .int 0, .int 0, .int 0, .int 0, .int 0, .int 0, .int 0, .int 0, .int 0]))] sz) := by
  refine g_met (q_c_Machine_init D h0 x1 x2 x3) (by decide) (Nat.le_of_ble_eq_true rfl) ?_
  intro p e s m below meth c A ls H locs hx hb hr hml hown hg hlocks hin hnw hgk hP hK hD hS hA hl
  have hown : s.vm.findClass RX5 = some m.cls := hown
  have hin : meth.name = "<init>" := hin
  have hl : lv_has ls 4 [(0, .ref h0), (1, .ref x1), (2, .ref x2), (3, .ref x3)] := hl
  refine lv_aload_n hx hb dX5_init_0 rfl (lv_at hl 0 rfl) ?_
  refine W.objInit hx hb hown (hg _ w664) (hg _ w188) (hg _ wobj) rfl (by rw [hml]; exact hl.1) rfl dX5_init_1 (Nat.le_of_ble_eq_true rfl) (Nat.le_of_ble_eq_true rfl) ?_
  refine W.eq (g2 := F0 m 4 ls []) rfl ?_
  refine lv_aload_n hx hb dX5_init_4 rfl (lv_at hl 0 rfl) ?_
  refine lv_sipush (v := 400) hx hb dX5_init_5 (by decide) ?_
  refine va_newq (D := D) (C := RX4) (n := 400) (N' := 400) hx hb hown (hg _ w665) hgk.2.2.2.2.1 hK hP hD hS hA (by decide) (by decide) (by decide) (Nat.le_of_ble_eq_true rfl) (Nat.le_of_ble_eq_true rfl) dX5_init_8 (fun q1 k2 H hK hP hD hS => ?_)
  have hP : va_P D vwCl [(h0, .inr (5, [.null, .null, .null, .null, .null, .null, .int 0, .int 0, .int 0, .int 0, .int 0, .int 0, .int 0, .int 0, .int 0])), (q1, .inl (k2, 400, .inr (.inr (.inr (.inr (fun _ => none))))))] H := hP
  have hD : va_D A [(h0, .inr (5, [.null, .null, .null, .null, .null, .null, .int 0, .int 0, .int 0, .int 0, .int 0, .int 0, .int 0, .int 0, .int 0])), (q1, .inl (k2, 400, .inr (.inr (.inr (.inr (fun _ => none))))))] := hD
  have hK : va_K D vwCl [(k2, .object RX4)] s := hK
  refine va_putF (D := D) (ci := 5) (v := .ref q1) (ty := tyX5 2) (C := RX5) (T := TX5) (N := 15) hx hb hg inX5 tyX5 tyX5_ok nmX5 hown hK hP hD hS 0 rfl rfl 2 (by decide) (hg _ w669) (fun _ h9 => h9) rfl hin rfl (tyX5_ok 2 (by decide)) rfl rfl (Nat.le_of_ble_eq_true rfl) dX5_init_11 (fun H locs hP hD hS => ?_)
  have hP : va_P D vwCl [(h0, .inr (5, [.null, .null, .ref q1, .null, .null, .null, .int 0, .int 0, .int 0, .int 0, .int 0, .int 0, .int 0, .int 0, .int 0])), (q1, .inl (k2, 400, .inr (.inr (.inr (.inr (fun _ => none))))))] H := hP
  have hD : va_D A [(h0, .inr (5, [.null, .null, .ref q1, .null, .null, .null, .int 0, .int 0, .int 0, .int 0, .int 0, .int 0, .int 0, .int 0, .int 0])), (q1, .inl (k2, 400, .inr (.inr (.inr (.inr (fun _ => none))))))] := hD
  refine lv_aload_n hx hb dX5_init_14 rfl (lv_at hl 0 rfl) ?_
  refine lv_sipush (v := 2048) hx hb dX5_init_15 (by decide) ?_
  refine va_newa (D := D) (atype := .int) (ty := .int) (n := 2048) (N' := 2048) (a0 := (2048, .inl (fun _ => 0))) hx hb (hg _ w297) rfl hK hP hD hS hA (fun _ => rfl) (by decide) (by decide) (by decide) (Nat.le_of_ble_eq_true rfl) (Nat.le_of_ble_eq_true rfl) dX5_init_18 (fun q3 k4 H hK hP hD hS => ?_)
  have hP : va_P D vwCl [(h0, .inr (5, [.null, .null, .ref q1, .null, .null, .null, .int 0, .int 0, .int 0, .int 0, .int 0, .int 0, .int 0, .int 0, .int 0])), (q1, .inl (k2, 400, .inr (.inr (.inr (.inr (fun _ => none)))))), (q3, .inl (k4, 2048, .inl (fun _ => 0)))] H := hP
  have hD : va_D A [(h0, .inr (5, [.null, .null, .ref q1, .null, .null, .null, .int 0, .int 0, .int 0, .int 0, .int 0, .int 0, .int 0, .int 0, .int 0])), (q1, .inl (k2, 400, .inr (.inr (.inr (.inr (fun _ => none)))))), (q3, .inl (k4, 2048, .inl (fun _ => 0)))] := hD
  have hK : va_K D vwCl [(k2, .object RX4), (k4, .int)] s := hK
  refine va_putF (D := D) (ci := 5) (v := .ref q3) (ty := tyX5 3) (C := RX5) (T := TX5) (N := 15) hx hb hg inX5 tyX5 tyX5_ok nmX5 hown hK hP hD hS 0 rfl rfl 3 (by decide) (hg _ w670) (fun _ h9 => h9) rfl hin rfl (tyX5_ok 3 (by decide)) rfl rfl (Nat.le_of_ble_eq_true rfl) dX5_init_20 (fun H locs hP hD hS => ?_)
  have hP : va_P D vwCl [(h0, .inr (5, [.null, .null, .ref q1, .ref q3, .null, .null, .int 0, .int 0, .int 0, .int 0, .int 0, .int 0, .int 0, .int 0, .int 0])), (q1, .inl (k2, 400, .inr (.inr (.inr (.inr (fun _ => none)))))), (q3, .inl (k4, 2048, .inl (fun _ => 0)))] H := hP
  have hD : va_D A [(h0, .inr (5, [.null, .null, .ref q1, .ref q3, .null, .null, .int 0, .int 0, .int 0, .int 0, .int 0, .int 0, .int 0, .int 0, .int 0])), (q1, .inl (k2, 400, .inr (.inr (.inr (.inr (fun _ => none)))))), (q3, .inl (k4, 2048, .inl (fun _ => 0)))] := hD
  refine lv_aload_n hx hb dX5_init_23 rfl (lv_at hl 0 rfl) ?_
  refine lv_sipush (v := 300) hx hb dX5_init_24 (by decide) ?_
  refine va_newa (D := D) (atype := .int) (ty := .int) (n := 300) (N' := 300) (a0 := (300, .inl (fun _ => 0))) hx hb (hg _ w297) rfl hK hP hD hS hA (fun _ => rfl) (by decide) (by decide) (by decide) (Nat.le_of_ble_eq_true rfl) (Nat.le_of_ble_eq_true rfl) dX5_init_27 (fun q5 k6 H hK hP hD hS => ?_)
  have hP : va_P D vwCl [(h0, .inr (5, [.null, .null, .ref q1, .ref q3, .null, .null, .int 0, .int 0, .int 0, .int 0, .int 0, .int 0, .int 0, .int 0, .int 0])), (q1, .inl (k2, 400, .inr (.inr (.inr (.inr (fun _ => none)))))), (q3, .inl (k4, 2048, .inl (fun _ => 0))), (q5, .inl (k6, 300, .inl (fun _ => 0)))] H := hP
  have hD : va_D A [(h0, .inr (5, [.null, .null, .ref q1, .ref q3, .null, .null, .int 0, .int 0, .int 0, .int 0, .int 0, .int 0, .int 0, .int 0, .int 0])), (q1, .inl (k2, 400, .inr (.inr (.inr (.inr (fun _ => none)))))), (q3, .inl (k4, 2048, .inl (fun _ => 0))), (q5, .inl (k6, 300, .inl (fun _ => 0)))] := hD
  have hK : va_K D vwCl [(k2, .object RX4), (k4, .int), (k6, .int)] s := hK
  refine va_putF (D := D) (ci := 5) (v := .ref q5) (ty := tyX5 4) (C := RX5) (T := TX5) (N := 15) hx hb hg inX5 tyX5 tyX5_ok nmX5 hown hK hP hD hS 0 rfl rfl 4 (by decide) (hg _ w671) (fun _ h9 => h9) rfl hin rfl (tyX5_ok 4 (by decide)) rfl rfl (Nat.le_of_ble_eq_true rfl) dX5_init_29 (fun H locs hP hD hS => ?_)
  have hP : va_P D vwCl [(h0, .inr (5, [.null, .null, .ref q1, .ref q3, .ref q5, .null, .int 0, .int 0, .int 0, .int 0, .int 0, .int 0, .int 0, .int 0, .int 0])), (q1, .inl (k2, 400, .inr (.inr (.inr (.inr (fun _ => none)))))), (q3, .inl (k4, 2048, .inl (fun _ => 0))), (q5, .inl (k6, 300, .inl (fun _ => 0)))] H := hP
  have hD : va_D A [(h0, .inr (5, [.null, .null, .ref q1, .ref q3, .ref q5, .null, .int 0, .int 0, .int 0, .int 0, .int 0, .int 0, .int 0, .int 0, .int 0])), (q1, .inl (k2, 400, .inr (.inr (.inr (.inr (fun _ => none)))))), (q3, .inl (k4, 2048, .inl (fun _ => 0))), (q5, .inl (k6, 300, .inl (fun _ => 0)))] := hD
  refine lv_aload_n hx hb dX5_init_32 rfl (lv_at hl 0 rfl) ?_
  refine lv_aload_n hx hb dX5_init_33 rfl (lv_at hl 1 rfl) ?_
  refine va_put (D := D) (ci := 5) (v := .ref x1) (ty := tyX5 5) (C := RX5) (T := TX5) (N := 15) hx hb hg inX5 tyX5 tyX5_ok nmX5 hown hK hP hD hS 0 rfl rfl 5 (by decide) (hg _ w672) (fun _ h9 => h9) rfl (tyX5_ok 5 (by decide)) rfl rfl (Nat.le_of_ble_eq_true rfl) dX5_init_34 (fun H locs hP hD hS => ?_)
  have hP : va_P D vwCl [(h0, .inr (5, [.null, .null, .ref q1, .ref q3, .ref q5, .ref x1, .int 0, .int 0, .int 0, .int 0, .int 0, .int 0, .int 0, .int 0, .int 0])), (q1, .inl (k2, 400, .inr (.inr (.inr (.inr (fun _ => none)))))), (q3, .inl (k4, 2048, .inl (fun _ => 0))), (q5, .inl (k6, 300, .inl (fun _ => 0)))] H := hP
  have hD : va_D A [(h0, .inr (5, [.null, .null, .ref q1, .ref q3, .ref q5, .ref x1, .int 0, .int 0, .int 0, .int 0, .int 0, .int 0, .int 0, .int 0, .int 0])), (q1, .inl (k2, 400, .inr (.inr (.inr (.inr (fun _ => none)))))), (q3, .inl (k4, 2048, .inl (fun _ => 0))), (q5, .inl (k6, 300, .inl (fun _ => 0)))] := hD
  refine lv_aload_n hx hb dX5_init_37 rfl (lv_at hl 0 rfl) ?_
  refine lv_aload_n hx hb dX5_init_38 rfl (lv_at hl 2 rfl) ?_
  refine va_putF (D := D) (ci := 5) (v := .ref x2) (ty := tyX5 0) (C := RX5) (T := TX5) (N := 15) hx hb hg inX5 tyX5 tyX5_ok nmX5 hown hK hP hD hS 0 rfl rfl 0 (by decide) (hg _ w667) (fun _ h9 => h9) rfl hin rfl (tyX5_ok 0 (by decide)) rfl rfl (Nat.le_of_ble_eq_true rfl) dX5_init_39 (fun H locs hP hD hS => ?_)
  have hP : va_P D vwCl [(h0, .inr (5, [.ref x2, .null, .ref q1, .ref q3, .ref q5, .ref x1, .int 0, .int 0, .int 0, .int 0, .int 0, .int 0, .int 0, .int 0, .int 0])), (q1, .inl (k2, 400, .inr (.inr (.inr (.inr (fun _ => none)))))), (q3, .inl (k4, 2048, .inl (fun _ => 0))), (q5, .inl (k6, 300, .inl (fun _ => 0)))] H := hP
  have hD : va_D A [(h0, .inr (5, [.ref x2, .null, .ref q1, .ref q3, .ref q5, .ref x1, .int 0, .int 0, .int 0, .int 0, .int 0, .int 0, .int 0, .int 0, .int 0])), (q1, .inl (k2, 400, .inr (.inr (.inr (.inr (fun _ => none)))))), (q3, .inl (k4, 2048, .inl (fun _ => 0))), (q5, .inl (k6, 300, .inl (fun _ => 0)))] := hD
  refine lv_aload_n hx hb dX5_init_42 rfl (lv_at hl 0 rfl) ?_
  refine lv_aload_n hx hb dX5_init_43 rfl (lv_at hl 3 rfl) ?_
  refine va_putF (D := D) (ci := 5) (v := .ref x3) (ty := tyX5 1) (C := RX5) (T := TX5) (N := 15) hx hb hg inX5 tyX5 tyX5_ok nmX5 hown hK hP hD hS 0 rfl rfl 1 (by decide) (hg _ w668) (fun _ h9 => h9) rfl hin rfl (tyX5_ok 1 (by decide)) rfl rfl (Nat.le_of_ble_eq_true rfl) dX5_init_44 (fun H locs hP hD hS => ?_)
  have hP : va_P D vwCl [(h0, .inr (5, [.ref x2, .ref x3, .ref q1, .ref q3, .ref q5, .ref x1, .int 0, .int 0, .int 0, .int 0, .int 0, .int 0, .int 0, .int 0, .int 0])), (q1, .inl (k2, 400, .inr (.inr (.inr (.inr (fun _ => none)))))), (q3, .inl (k4, 2048, .inl (fun _ => 0))), (q5, .inl (k6, 300, .inl (fun _ => 0)))] H := hP
  have hD : va_D A [(h0, .inr (5, [.ref x2, .ref x3, .ref q1, .ref q3, .ref q5, .ref x1, .int 0, .int 0, .int 0, .int 0, .int 0, .int 0, .int 0, .int 0, .int 0])), (q1, .inl (k2, 400, .inr (.inr (.inr (.inr (fun _ => none)))))), (q3, .inl (k4, 2048, .inl (fun _ => 0))), (q5, .inl (k6, 300, .inl (fun _ => 0)))] := hD
  refine W.widen (k := 3) (n := 2748) (Nat.le_of_ble_eq_true rfl) (Nat.le_of_ble_eq_true rfl) ?_
  have hP9 := hP.sub (ws' := [(h0, .inr (5, [.ref x2, .ref x3, .ref q1, .ref q3, .ref q5, .ref x1, .int 0, .int 0, .int 0, .int 0, .int 0, .int 0, .int 0, .int 0, .int 0])), (q1, .inl (k2, 400, .inr (.inr (.inr (.inr (fun _ => none)))))), (q3, .inl (k4, 2048, .inl (fun _ => 0))), (q5, .inl (k6, 300, .inl (fun _ => 0)))]) [0, 1, 2, 3] rfl
  have hD9 := hD.sub (ws' := [(h0, .inr (5, [.ref x2, .ref x3, .ref q1, .ref q3, .ref q5, .ref x1, .int 0, .int 0, .int 0, .int 0, .int 0, .int 0, .int 0, .int 0, .int 0])), (q1, .inl (k2, 400, .inr (.inr (.inr (.inr (fun _ => none)))))), (q3, .inl (k4, 2048, .inl (fun _ => 0))), (q5, .inl (k6, 300, .inl (fun _ => 0)))]) [0, 1, 2, 3] (by decide) rfl
  have hK9 := hK.sub (tys' := [(k2, .object RX4), (k4, .int), (k6, .int)]) [0, 1, 2] rfl
  exact W.vret hx hb hr (fun t ht hW => ⟨⟨(q1, q3, q5, k2, k4, k6), rfl, (by first | rfl | trivial | assumption | decide), by rw [ht]; exact hP9, va_K.moved hW.alike hK9, hD9⟩, hS.F ht⟩) hS.2.2 dX5_init_47
abbrev r_c_Stock_init : Room := { frames := 1, cells := 12, slots := 5744, locals := 23 }
abbrev q_c_Stock_init (D : va_G) (h0 : Nat) (A : Nat → Prop) : Array Value → State → Outcome → State → Prop := va_Qv (fun (u : Nat × Nat × Nat × Nat × Nat × Nat × Nat × Nat × Nat × Nat × Nat × Nat × ClassId × ClassId × ClassId × ClassId × ClassId × ClassId × ClassId × ClassId × ClassId × ClassId × ClassId × ClassId × (Nat → Int32)) => ∀ q : Nat, u.2.2.2.2.2.2.2.2.2.2.2.2.2.2.2.2.2.2.2.2.2.2.2.2 q = if q < 960 then -1 else 0) (fun u t => gq D A ((fun (u : Nat × Nat × Nat × Nat × Nat × Nat × Nat × Nat × Nat × Nat × Nat × Nat × ClassId × ClassId × ClassId × ClassId × ClassId × ClassId × ClassId × ClassId × ClassId × ClassId × ClassId × ClassId × (Nat → Int32)) => [(h0, .inr (8, [.ref u.1, .ref u.2.1, .ref u.2.2.1, .ref u.2.2.2.1, .ref u.2.2.2.2.1, .ref u.2.2.2.2.2.1, .ref u.2.2.2.2.2.2.1, .ref u.2.2.2.2.2.2.2.1, .ref u.2.2.2.2.2.2.2.2.1, .ref u.2.2.2.2.2.2.2.2.2.1, .ref u.2.2.2.2.2.2.2.2.2.2.1, .ref u.2.2.2.2.2.2.2.2.2.2.2.1, .int 1, .int 0, .int 0, .int 0])), (u.1, .inl (u.2.2.2.2.2.2.2.2.2.2.2.2.1, 40, .inl (fun _ => 0))), (u.2.1, .inl (u.2.2.2.2.2.2.2.2.2.2.2.2.2.1, 40, .inl (fun _ => 0))), (u.2.2.1, .inl (u.2.2.2.2.2.2.2.2.2.2.2.2.2.2.1, 40, .inl (upd (fun _ => 0) 0 1))), (u.2.2.2.1, .inl (u.2.2.2.2.2.2.2.2.2.2.2.2.2.2.2.1, 40, .inl (fun _ => 0))), (u.2.2.2.2.1, .inl (u.2.2.2.2.2.2.2.2.2.2.2.2.2.2.2.2.1, 960, .inl (u.2.2.2.2.2.2.2.2.2.2.2.2.2.2.2.2.2.2.2.2.2.2.2.2))), (u.2.2.2.2.2.1, .inl (u.2.2.2.2.2.2.2.2.2.2.2.2.2.2.2.2.2.1, 300, .inl (fun _ => 0))), (u.2.2.2.2.2.2.1, .inl (u.2.2.2.2.2.2.2.2.2.2.2.2.2.2.2.2.2.2.1, 300, .inl (fun _ => 0))), (u.2.2.2.2.2.2.2.1, .inl (u.2.2.2.2.2.2.2.2.2.2.2.2.2.2.2.2.2.2.2.1, 300, .inl (fun _ => 0))), (u.2.2.2.2.2.2.2.2.1, .inl (u.2.2.2.2.2.2.2.2.2.2.2.2.2.2.2.2.2.2.2.2.1, 300, .inl (fun _ => 0))), (u.2.2.2.2.2.2.2.2.2.1, .inl (u.2.2.2.2.2.2.2.2.2.2.2.2.2.2.2.2.2.2.2.2.2.1, 2400, .inl (fun _ => 0))), (u.2.2.2.2.2.2.2.2.2.2.1, .inl (u.2.2.2.2.2.2.2.2.2.2.2.2.2.2.2.2.2.2.2.2.2.2.1, 512, .inl (fun _ => 0))), (u.2.2.2.2.2.2.2.2.2.2.2.1, .inl (u.2.2.2.2.2.2.2.2.2.2.2.2.2.2.2.2.2.2.2.2.2.2.2.1, 512, .inl (fun _ => 0)))]) u) ((fun (u : Nat × Nat × Nat × Nat × Nat × Nat × Nat × Nat × Nat × Nat × Nat × Nat × ClassId × ClassId × ClassId × ClassId × ClassId × ClassId × ClassId × ClassId × ClassId × ClassId × ClassId × ClassId × (Nat → Int32)) => ([(u.2.2.2.2.2.2.2.2.2.2.2.2.1, .int), (u.2.2.2.2.2.2.2.2.2.2.2.2.2.1, .int), (u.2.2.2.2.2.2.2.2.2.2.2.2.2.2.1, .boolean), (u.2.2.2.2.2.2.2.2.2.2.2.2.2.2.2.1, .int), (u.2.2.2.2.2.2.2.2.2.2.2.2.2.2.2.2.1, .int), (u.2.2.2.2.2.2.2.2.2.2.2.2.2.2.2.2.2.1, .int), (u.2.2.2.2.2.2.2.2.2.2.2.2.2.2.2.2.2.2.1, .int), (u.2.2.2.2.2.2.2.2.2.2.2.2.2.2.2.2.2.2.2.1, .int), (u.2.2.2.2.2.2.2.2.2.2.2.2.2.2.2.2.2.2.2.2.1, .int), (u.2.2.2.2.2.2.2.2.2.2.2.2.2.2.2.2.2.2.2.2.2.1, .int), (u.2.2.2.2.2.2.2.2.2.2.2.2.2.2.2.2.2.2.2.2.2.2.1, .int), (u.2.2.2.2.2.2.2.2.2.2.2.2.2.2.2.2.2.2.2.2.2.2.2.1, .int)] : List (ClassId × FieldType))) u) t) A
set_option maxHeartbeats 4000000 in
set_option maxRecDepth 100000 in
theorem c_Stock_init (l : Launch) (D : va_G) (ks : KS) (sz : Nat) (h0 : Nat) : Met l yX8_init (Cond.code yX8_init cX8_init 1 none :: GW) r_c_Stock_init (va_Pc [.ref h0] (gp D ks [(h0, .inr (8, [.null, .null, .null, .null, .null, .null, .null, .null, .null, .null, .null, .null, .int 0, .int 0, .int 0, .int 0]))] [] sz)) (q_c_Stock_init D h0 (va_A [(h0, .inr (8, [.null, .null, .null, .null, .null, .null, .null, .null, .null, .null, .null, .null, .int 0, .int 0, .int 0, .int 0]))] sz)) 12 5744 (va_A [(h0, .inr (8, [.null, .null, .null, .null, .null, .null, .null, .null, .null, .null, .null, .null, .int 0, .int 0, .int 0, .int 0]))] sz) := by
  refine g_met (q_c_Stock_init D h0) (by decide) (Nat.le_of_ble_eq_true rfl) ?_
  intro p e s m below meth c A ls H locs hx hb hr hml hown hg hlocks hin hnw hgk hP hK hD hS hA hl
  have hown : s.vm.findClass RX8 = some m.cls := hown
  have hin : meth.name = "<init>" := hin
  have hl : lv_has ls 1 [(0, .ref h0)] := hl
  refine lv_aload_n hx hb dX8_init_0 rfl (lv_at hl 0 rfl) ?_
  refine W.objInit hx hb hown (hg _ w369) (hg _ w188) (hg _ wobj) rfl (by rw [hml]; exact hl.1) rfl dX8_init_1 (Nat.le_of_ble_eq_true rfl) (Nat.le_of_ble_eq_true rfl) ?_
  refine W.eq (g2 := F0 m 4 ls []) rfl ?_
  refine lv_aload_n hx hb dX8_init_4 rfl (lv_at hl 0 rfl) ?_
  refine lv_bipush (v := 40) hx hb dX8_init_5 (by decide) ?_
  refine va_newa (D := D) (atype := .int) (ty := .int) (n := 40) (N' := 40) (a0 := (40, .inl (fun _ => 0))) hx hb (hg _ w297) rfl hK hP hD hS hA (fun _ => rfl) (by decide) (by decide) (by decide) (Nat.le_of_ble_eq_true rfl) (Nat.le_of_ble_eq_true rfl) dX8_init_7 (fun q1 k2 H hK hP hD hS => ?_)
  have hP : va_P D vwCl [(h0, .inr (8, [.null, .null, .null, .null, .null, .null, .null, .null, .null, .null, .null, .null, .int 0, .int 0, .int 0, .int 0])), (q1, .inl (k2, 40, .inl (fun _ => 0)))] H := hP
  have hD : va_D A [(h0, .inr (8, [.null, .null, .null, .null, .null, .null, .null, .null, .null, .null, .null, .null, .int 0, .int 0, .int 0, .int 0])), (q1, .inl (k2, 40, .inl (fun _ => 0)))] := hD
  have hK : va_K D vwCl [(k2, .int)] s := hK
  refine va_putF (D := D) (ci := 8) (v := .ref q1) (ty := tyX8 0) (C := RX8) (T := TX8) (N := 16) hx hb hg inX8 tyX8 tyX8_ok nmX8 hown hK hP hD hS 0 rfl rfl 0 (by decide) (hg _ w373) (fun _ h9 => h9) rfl hin rfl (tyX8_ok 0 (by decide)) rfl rfl (Nat.le_of_ble_eq_true rfl) dX8_init_9 (fun H locs hP hD hS => ?_)
  have hP : va_P D vwCl [(h0, .inr (8, [.ref q1, .null, .null, .null, .null, .null, .null, .null, .null, .null, .null, .null, .int 0, .int 0, .int 0, .int 0])), (q1, .inl (k2, 40, .inl (fun _ => 0)))] H := hP
  have hD : va_D A [(h0, .inr (8, [.ref q1, .null, .null, .null, .null, .null, .null, .null, .null, .null, .null, .null, .int 0, .int 0, .int 0, .int 0])), (q1, .inl (k2, 40, .inl (fun _ => 0)))] := hD
  refine lv_aload_n hx hb dX8_init_12 rfl (lv_at hl 0 rfl) ?_
  refine lv_bipush (v := 40) hx hb dX8_init_13 (by decide) ?_
  refine va_newa (D := D) (atype := .int) (ty := .int) (n := 40) (N' := 40) (a0 := (40, .inl (fun _ => 0))) hx hb (hg _ w297) rfl hK hP hD hS hA (fun _ => rfl) (by decide) (by decide) (by decide) (Nat.le_of_ble_eq_true rfl) (Nat.le_of_ble_eq_true rfl) dX8_init_15 (fun q3 k4 H hK hP hD hS => ?_)
  have hP : va_P D vwCl [(h0, .inr (8, [.ref q1, .null, .null, .null, .null, .null, .null, .null, .null, .null, .null, .null, .int 0, .int 0, .int 0, .int 0])), (q1, .inl (k2, 40, .inl (fun _ => 0))), (q3, .inl (k4, 40, .inl (fun _ => 0)))] H := hP
  have hD : va_D A [(h0, .inr (8, [.ref q1, .null, .null, .null, .null, .null, .null, .null, .null, .null, .null, .null, .int 0, .int 0, .int 0, .int 0])), (q1, .inl (k2, 40, .inl (fun _ => 0))), (q3, .inl (k4, 40, .inl (fun _ => 0)))] := hD
  have hK : va_K D vwCl [(k2, .int), (k4, .int)] s := hK
  refine va_putF (D := D) (ci := 8) (v := .ref q3) (ty := tyX8 1) (C := RX8) (T := TX8) (N := 16) hx hb hg inX8 tyX8 tyX8_ok nmX8 hown hK hP hD hS 0 rfl rfl 1 (by decide) (hg _ w375) (fun _ h9 => h9) rfl hin rfl (tyX8_ok 1 (by decide)) rfl rfl (Nat.le_of_ble_eq_true rfl) dX8_init_17 (fun H locs hP hD hS => ?_)
  have hP : va_P D vwCl [(h0, .inr (8, [.ref q1, .ref q3, .null, .null, .null, .null, .null, .null, .null, .null, .null, .null, .int 0, .int 0, .int 0, .int 0])), (q1, .inl (k2, 40, .inl (fun _ => 0))), (q3, .inl (k4, 40, .inl (fun _ => 0)))] H := hP
  have hD : va_D A [(h0, .inr (8, [.ref q1, .ref q3, .null, .null, .null, .null, .null, .null, .null, .null, .null, .null, .int 0, .int 0, .int 0, .int 0])), (q1, .inl (k2, 40, .inl (fun _ => 0))), (q3, .inl (k4, 40, .inl (fun _ => 0)))] := hD
  refine lv_aload_n hx hb dX8_init_20 rfl (lv_at hl 0 rfl) ?_
  refine lv_bipush (v := 40) hx hb dX8_init_21 (by decide) ?_
  refine va_newa (D := D) (atype := .boolean) (ty := .boolean) (n := 40) (N' := 40) (a0 := (40, .inl (fun _ => 0))) hx hb (hg _ w428) rfl hK hP hD hS hA (fun _ => rfl) (by decide) (by decide) (by decide) (Nat.le_of_ble_eq_true rfl) (Nat.le_of_ble_eq_true rfl) dX8_init_23 (fun q5 k6 H hK hP hD hS => ?_)
  have hP : va_P D vwCl [(h0, .inr (8, [.ref q1, .ref q3, .null, .null, .null, .null, .null, .null, .null, .null, .null, .null, .int 0, .int 0, .int 0, .int 0])), (q1, .inl (k2, 40, .inl (fun _ => 0))), (q3, .inl (k4, 40, .inl (fun _ => 0))), (q5, .inl (k6, 40, .inl (fun _ => 0)))] H := hP
  have hD : va_D A [(h0, .inr (8, [.ref q1, .ref q3, .null, .null, .null, .null, .null, .null, .null, .null, .null, .null, .int 0, .int 0, .int 0, .int 0])), (q1, .inl (k2, 40, .inl (fun _ => 0))), (q3, .inl (k4, 40, .inl (fun _ => 0))), (q5, .inl (k6, 40, .inl (fun _ => 0)))] := hD
  have hK : va_K D vwCl [(k2, .int), (k4, .int), (k6, .boolean)] s := hK
  refine va_putF (D := D) (ci := 8) (v := .ref q5) (ty := tyX8 2) (C := RX8) (T := TX8) (N := 16) hx hb hg inX8 tyX8 tyX8_ok nmX8 hown hK hP hD hS 0 rfl rfl 2 (by decide) (hg _ w376) (fun _ h9 => h9) rfl hin rfl (tyX8_ok 2 (by decide)) rfl rfl (Nat.le_of_ble_eq_true rfl) dX8_init_25 (fun H locs hP hD hS => ?_)
  have hP : va_P D vwCl [(h0, .inr (8, [.ref q1, .ref q3, .ref q5, .null, .null, .null, .null, .null, .null, .null, .null, .null, .int 0, .int 0, .int 0, .int 0])), (q1, .inl (k2, 40, .inl (fun _ => 0))), (q3, .inl (k4, 40, .inl (fun _ => 0))), (q5, .inl (k6, 40, .inl (fun _ => 0)))] H := hP
  have hD : va_D A [(h0, .inr (8, [.ref q1, .ref q3, .ref q5, .null, .null, .null, .null, .null, .null, .null, .null, .null, .int 0, .int 0, .int 0, .int 0])), (q1, .inl (k2, 40, .inl (fun _ => 0))), (q3, .inl (k4, 40, .inl (fun _ => 0))), (q5, .inl (k6, 40, .inl (fun _ => 0)))] := hD
  refine lv_aload_n hx hb dX8_init_28 rfl (lv_at hl 0 rfl) ?_
  refine lv_bipush (v := 40) hx hb dX8_init_29 (by decide) ?_
  refine va_newa (D := D) (atype := .int) (ty := .int) (n := 40) (N' := 40) (a0 := (40, .inl (fun _ => 0))) hx hb (hg _ w297) rfl hK hP hD hS hA (fun _ => rfl) (by decide) (by decide) (by decide) (Nat.le_of_ble_eq_true rfl) (Nat.le_of_ble_eq_true rfl) dX8_init_31 (fun q7 k8 H hK hP hD hS => ?_)
  have hP : va_P D vwCl [(h0, .inr (8, [.ref q1, .ref q3, .ref q5, .null, .null, .null, .null, .null, .null, .null, .null, .null, .int 0, .int 0, .int 0, .int 0])), (q1, .inl (k2, 40, .inl (fun _ => 0))), (q3, .inl (k4, 40, .inl (fun _ => 0))), (q5, .inl (k6, 40, .inl (fun _ => 0))), (q7, .inl (k8, 40, .inl (fun _ => 0)))] H := hP
  have hD : va_D A [(h0, .inr (8, [.ref q1, .ref q3, .ref q5, .null, .null, .null, .null, .null, .null, .null, .null, .null, .int 0, .int 0, .int 0, .int 0])), (q1, .inl (k2, 40, .inl (fun _ => 0))), (q3, .inl (k4, 40, .inl (fun _ => 0))), (q5, .inl (k6, 40, .inl (fun _ => 0))), (q7, .inl (k8, 40, .inl (fun _ => 0)))] := hD
  have hK : va_K D vwCl [(k2, .int), (k4, .int), (k6, .boolean), (k8, .int)] s := hK
  refine va_putF (D := D) (ci := 8) (v := .ref q7) (ty := tyX8 3) (C := RX8) (T := TX8) (N := 16) hx hb hg inX8 tyX8 tyX8_ok nmX8 hown hK hP hD hS 0 rfl rfl 3 (by decide) (hg _ w377) (fun _ h9 => h9) rfl hin rfl (tyX8_ok 3 (by decide)) rfl rfl (Nat.le_of_ble_eq_true rfl) dX8_init_33 (fun H locs hP hD hS => ?_)
  have hP : va_P D vwCl [(h0, .inr (8, [.ref q1, .ref q3, .ref q5, .ref q7, .null, .null, .null, .null, .null, .null, .null, .null, .int 0, .int 0, .int 0, .int 0])), (q1, .inl (k2, 40, .inl (fun _ => 0))), (q3, .inl (k4, 40, .inl (fun _ => 0))), (q5, .inl (k6, 40, .inl (fun _ => 0))), (q7, .inl (k8, 40, .inl (fun _ => 0)))] H := hP
  have hD : va_D A [(h0, .inr (8, [.ref q1, .ref q3, .ref q5, .ref q7, .null, .null, .null, .null, .null, .null, .null, .null, .int 0, .int 0, .int 0, .int 0])), (q1, .inl (k2, 40, .inl (fun _ => 0))), (q3, .inl (k4, 40, .inl (fun _ => 0))), (q5, .inl (k6, 40, .inl (fun _ => 0))), (q7, .inl (k8, 40, .inl (fun _ => 0)))] := hD
  refine lv_aload_n hx hb dX8_init_36 rfl (lv_at hl 0 rfl) ?_
  refine lv_sipush (v := 960) hx hb dX8_init_37 (by decide) ?_
  refine va_newa (D := D) (atype := .int) (ty := .int) (n := 960) (N' := 960) (a0 := (960, .inl (fun _ => 0))) hx hb (hg _ w297) rfl hK hP hD hS hA (fun _ => rfl) (by decide) (by decide) (by decide) (Nat.le_of_ble_eq_true rfl) (Nat.le_of_ble_eq_true rfl) dX8_init_40 (fun q9 k10 H hK hP hD hS => ?_)
  have hP : va_P D vwCl [(h0, .inr (8, [.ref q1, .ref q3, .ref q5, .ref q7, .null, .null, .null, .null, .null, .null, .null, .null, .int 0, .int 0, .int 0, .int 0])), (q1, .inl (k2, 40, .inl (fun _ => 0))), (q3, .inl (k4, 40, .inl (fun _ => 0))), (q5, .inl (k6, 40, .inl (fun _ => 0))), (q7, .inl (k8, 40, .inl (fun _ => 0))), (q9, .inl (k10, 960, .inl (fun _ => 0)))] H := hP
  have hD : va_D A [(h0, .inr (8, [.ref q1, .ref q3, .ref q5, .ref q7, .null, .null, .null, .null, .null, .null, .null, .null, .int 0, .int 0, .int 0, .int 0])), (q1, .inl (k2, 40, .inl (fun _ => 0))), (q3, .inl (k4, 40, .inl (fun _ => 0))), (q5, .inl (k6, 40, .inl (fun _ => 0))), (q7, .inl (k8, 40, .inl (fun _ => 0))), (q9, .inl (k10, 960, .inl (fun _ => 0)))] := hD
  have hK : va_K D vwCl [(k2, .int), (k4, .int), (k6, .boolean), (k8, .int), (k10, .int)] s := hK
  refine va_putF (D := D) (ci := 8) (v := .ref q9) (ty := tyX8 4) (C := RX8) (T := TX8) (N := 16) hx hb hg inX8 tyX8 tyX8_ok nmX8 hown hK hP hD hS 0 rfl rfl 4 (by decide) (hg _ w378) (fun _ h9 => h9) rfl hin rfl (tyX8_ok 4 (by decide)) rfl rfl (Nat.le_of_ble_eq_true rfl) dX8_init_42 (fun H locs hP hD hS => ?_)
  have hP : va_P D vwCl [(h0, .inr (8, [.ref q1, .ref q3, .ref q5, .ref q7, .ref q9, .null, .null, .null, .null, .null, .null, .null, .int 0, .int 0, .int 0, .int 0])), (q1, .inl (k2, 40, .inl (fun _ => 0))), (q3, .inl (k4, 40, .inl (fun _ => 0))), (q5, .inl (k6, 40, .inl (fun _ => 0))), (q7, .inl (k8, 40, .inl (fun _ => 0))), (q9, .inl (k10, 960, .inl (fun _ => 0)))] H := hP
  have hD : va_D A [(h0, .inr (8, [.ref q1, .ref q3, .ref q5, .ref q7, .ref q9, .null, .null, .null, .null, .null, .null, .null, .int 0, .int 0, .int 0, .int 0])), (q1, .inl (k2, 40, .inl (fun _ => 0))), (q3, .inl (k4, 40, .inl (fun _ => 0))), (q5, .inl (k6, 40, .inl (fun _ => 0))), (q7, .inl (k8, 40, .inl (fun _ => 0))), (q9, .inl (k10, 960, .inl (fun _ => 0)))] := hD
  refine lv_aload_n hx hb dX8_init_45 rfl (lv_at hl 0 rfl) ?_
  refine lv_sipush (v := 300) hx hb dX8_init_46 (by decide) ?_
  refine va_newa (D := D) (atype := .int) (ty := .int) (n := 300) (N' := 300) (a0 := (300, .inl (fun _ => 0))) hx hb (hg _ w297) rfl hK hP hD hS hA (fun _ => rfl) (by decide) (by decide) (by decide) (Nat.le_of_ble_eq_true rfl) (Nat.le_of_ble_eq_true rfl) dX8_init_49 (fun q11 k12 H hK hP hD hS => ?_)
  have hP : va_P D vwCl [(h0, .inr (8, [.ref q1, .ref q3, .ref q5, .ref q7, .ref q9, .null, .null, .null, .null, .null, .null, .null, .int 0, .int 0, .int 0, .int 0])), (q1, .inl (k2, 40, .inl (fun _ => 0))), (q3, .inl (k4, 40, .inl (fun _ => 0))), (q5, .inl (k6, 40, .inl (fun _ => 0))), (q7, .inl (k8, 40, .inl (fun _ => 0))), (q9, .inl (k10, 960, .inl (fun _ => 0))), (q11, .inl (k12, 300, .inl (fun _ => 0)))] H := hP
  have hD : va_D A [(h0, .inr (8, [.ref q1, .ref q3, .ref q5, .ref q7, .ref q9, .null, .null, .null, .null, .null, .null, .null, .int 0, .int 0, .int 0, .int 0])), (q1, .inl (k2, 40, .inl (fun _ => 0))), (q3, .inl (k4, 40, .inl (fun _ => 0))), (q5, .inl (k6, 40, .inl (fun _ => 0))), (q7, .inl (k8, 40, .inl (fun _ => 0))), (q9, .inl (k10, 960, .inl (fun _ => 0))), (q11, .inl (k12, 300, .inl (fun _ => 0)))] := hD
  have hK : va_K D vwCl [(k2, .int), (k4, .int), (k6, .boolean), (k8, .int), (k10, .int), (k12, .int)] s := hK
  refine va_putF (D := D) (ci := 8) (v := .ref q11) (ty := tyX8 5) (C := RX8) (T := TX8) (N := 16) hx hb hg inX8 tyX8 tyX8_ok nmX8 hown hK hP hD hS 0 rfl rfl 5 (by decide) (hg _ w379) (fun _ h9 => h9) rfl hin rfl (tyX8_ok 5 (by decide)) rfl rfl (Nat.le_of_ble_eq_true rfl) dX8_init_51 (fun H locs hP hD hS => ?_)
  have hP : va_P D vwCl [(h0, .inr (8, [.ref q1, .ref q3, .ref q5, .ref q7, .ref q9, .ref q11, .null, .null, .null, .null, .null, .null, .int 0, .int 0, .int 0, .int 0])), (q1, .inl (k2, 40, .inl (fun _ => 0))), (q3, .inl (k4, 40, .inl (fun _ => 0))), (q5, .inl (k6, 40, .inl (fun _ => 0))), (q7, .inl (k8, 40, .inl (fun _ => 0))), (q9, .inl (k10, 960, .inl (fun _ => 0))), (q11, .inl (k12, 300, .inl (fun _ => 0)))] H := hP
  have hD : va_D A [(h0, .inr (8, [.ref q1, .ref q3, .ref q5, .ref q7, .ref q9, .ref q11, .null, .null, .null, .null, .null, .null, .int 0, .int 0, .int 0, .int 0])), (q1, .inl (k2, 40, .inl (fun _ => 0))), (q3, .inl (k4, 40, .inl (fun _ => 0))), (q5, .inl (k6, 40, .inl (fun _ => 0))), (q7, .inl (k8, 40, .inl (fun _ => 0))), (q9, .inl (k10, 960, .inl (fun _ => 0))), (q11, .inl (k12, 300, .inl (fun _ => 0)))] := hD
  refine lv_aload_n hx hb dX8_init_54 rfl (lv_at hl 0 rfl) ?_
  refine lv_sipush (v := 300) hx hb dX8_init_55 (by decide) ?_
  refine va_newa (D := D) (atype := .int) (ty := .int) (n := 300) (N' := 300) (a0 := (300, .inl (fun _ => 0))) hx hb (hg _ w297) rfl hK hP hD hS hA (fun _ => rfl) (by decide) (by decide) (by decide) (Nat.le_of_ble_eq_true rfl) (Nat.le_of_ble_eq_true rfl) dX8_init_58 (fun q13 k14 H hK hP hD hS => ?_)
  have hP : va_P D vwCl [(h0, .inr (8, [.ref q1, .ref q3, .ref q5, .ref q7, .ref q9, .ref q11, .null, .null, .null, .null, .null, .null, .int 0, .int 0, .int 0, .int 0])), (q1, .inl (k2, 40, .inl (fun _ => 0))), (q3, .inl (k4, 40, .inl (fun _ => 0))), (q5, .inl (k6, 40, .inl (fun _ => 0))), (q7, .inl (k8, 40, .inl (fun _ => 0))), (q9, .inl (k10, 960, .inl (fun _ => 0))), (q11, .inl (k12, 300, .inl (fun _ => 0))), (q13, .inl (k14, 300, .inl (fun _ => 0)))] H := hP
  have hD : va_D A [(h0, .inr (8, [.ref q1, .ref q3, .ref q5, .ref q7, .ref q9, .ref q11, .null, .null, .null, .null, .null, .null, .int 0, .int 0, .int 0, .int 0])), (q1, .inl (k2, 40, .inl (fun _ => 0))), (q3, .inl (k4, 40, .inl (fun _ => 0))), (q5, .inl (k6, 40, .inl (fun _ => 0))), (q7, .inl (k8, 40, .inl (fun _ => 0))), (q9, .inl (k10, 960, .inl (fun _ => 0))), (q11, .inl (k12, 300, .inl (fun _ => 0))), (q13, .inl (k14, 300, .inl (fun _ => 0)))] := hD
  have hK : va_K D vwCl [(k2, .int), (k4, .int), (k6, .boolean), (k8, .int), (k10, .int), (k12, .int), (k14, .int)] s := hK
  refine va_putF (D := D) (ci := 8) (v := .ref q13) (ty := tyX8 6) (C := RX8) (T := TX8) (N := 16) hx hb hg inX8 tyX8 tyX8_ok nmX8 hown hK hP hD hS 0 rfl rfl 6 (by decide) (hg _ w381) (fun _ h9 => h9) rfl hin rfl (tyX8_ok 6 (by decide)) rfl rfl (Nat.le_of_ble_eq_true rfl) dX8_init_60 (fun H locs hP hD hS => ?_)
  have hP : va_P D vwCl [(h0, .inr (8, [.ref q1, .ref q3, .ref q5, .ref q7, .ref q9, .ref q11, .ref q13, .null, .null, .null, .null, .null, .int 0, .int 0, .int 0, .int 0])), (q1, .inl (k2, 40, .inl (fun _ => 0))), (q3, .inl (k4, 40, .inl (fun _ => 0))), (q5, .inl (k6, 40, .inl (fun _ => 0))), (q7, .inl (k8, 40, .inl (fun _ => 0))), (q9, .inl (k10, 960, .inl (fun _ => 0))), (q11, .inl (k12, 300, .inl (fun _ => 0))), (q13, .inl (k14, 300, .inl (fun _ => 0)))] H := hP
  have hD : va_D A [(h0, .inr (8, [.ref q1, .ref q3, .ref q5, .ref q7, .ref q9, .ref q11, .ref q13, .null, .null, .null, .null, .null, .int 0, .int 0, .int 0, .int 0])), (q1, .inl (k2, 40, .inl (fun _ => 0))), (q3, .inl (k4, 40, .inl (fun _ => 0))), (q5, .inl (k6, 40, .inl (fun _ => 0))), (q7, .inl (k8, 40, .inl (fun _ => 0))), (q9, .inl (k10, 960, .inl (fun _ => 0))), (q11, .inl (k12, 300, .inl (fun _ => 0))), (q13, .inl (k14, 300, .inl (fun _ => 0)))] := hD
  refine lv_aload_n hx hb dX8_init_63 rfl (lv_at hl 0 rfl) ?_
  refine lv_sipush (v := 300) hx hb dX8_init_64 (by decide) ?_
  refine va_newa (D := D) (atype := .int) (ty := .int) (n := 300) (N' := 300) (a0 := (300, .inl (fun _ => 0))) hx hb (hg _ w297) rfl hK hP hD hS hA (fun _ => rfl) (by decide) (by decide) (by decide) (Nat.le_of_ble_eq_true rfl) (Nat.le_of_ble_eq_true rfl) dX8_init_67 (fun q15 k16 H hK hP hD hS => ?_)
  have hP : va_P D vwCl [(h0, .inr (8, [.ref q1, .ref q3, .ref q5, .ref q7, .ref q9, .ref q11, .ref q13, .null, .null, .null, .null, .null, .int 0, .int 0, .int 0, .int 0])), (q1, .inl (k2, 40, .inl (fun _ => 0))), (q3, .inl (k4, 40, .inl (fun _ => 0))), (q5, .inl (k6, 40, .inl (fun _ => 0))), (q7, .inl (k8, 40, .inl (fun _ => 0))), (q9, .inl (k10, 960, .inl (fun _ => 0))), (q11, .inl (k12, 300, .inl (fun _ => 0))), (q13, .inl (k14, 300, .inl (fun _ => 0))), (q15, .inl (k16, 300, .inl (fun _ => 0)))] H := hP
  have hD : va_D A [(h0, .inr (8, [.ref q1, .ref q3, .ref q5, .ref q7, .ref q9, .ref q11, .ref q13, .null, .null, .null, .null, .null, .int 0, .int 0, .int 0, .int 0])), (q1, .inl (k2, 40, .inl (fun _ => 0))), (q3, .inl (k4, 40, .inl (fun _ => 0))), (q5, .inl (k6, 40, .inl (fun _ => 0))), (q7, .inl (k8, 40, .inl (fun _ => 0))), (q9, .inl (k10, 960, .inl (fun _ => 0))), (q11, .inl (k12, 300, .inl (fun _ => 0))), (q13, .inl (k14, 300, .inl (fun _ => 0))), (q15, .inl (k16, 300, .inl (fun _ => 0)))] := hD
  have hK : va_K D vwCl [(k2, .int), (k4, .int), (k6, .boolean), (k8, .int), (k10, .int), (k12, .int), (k14, .int), (k16, .int)] s := hK
  refine va_putF (D := D) (ci := 8) (v := .ref q15) (ty := tyX8 7) (C := RX8) (T := TX8) (N := 16) hx hb hg inX8 tyX8 tyX8_ok nmX8 hown hK hP hD hS 0 rfl rfl 7 (by decide) (hg _ w384) (fun _ h9 => h9) rfl hin rfl (tyX8_ok 7 (by decide)) rfl rfl (Nat.le_of_ble_eq_true rfl) dX8_init_69 (fun H locs hP hD hS => ?_)
  have hP : va_P D vwCl [(h0, .inr (8, [.ref q1, .ref q3, .ref q5, .ref q7, .ref q9, .ref q11, .ref q13, .ref q15, .null, .null, .null, .null, .int 0, .int 0, .int 0, .int 0])), (q1, .inl (k2, 40, .inl (fun _ => 0))), (q3, .inl (k4, 40, .inl (fun _ => 0))), (q5, .inl (k6, 40, .inl (fun _ => 0))), (q7, .inl (k8, 40, .inl (fun _ => 0))), (q9, .inl (k10, 960, .inl (fun _ => 0))), (q11, .inl (k12, 300, .inl (fun _ => 0))), (q13, .inl (k14, 300, .inl (fun _ => 0))), (q15, .inl (k16, 300, .inl (fun _ => 0)))] H := hP
  have hD : va_D A [(h0, .inr (8, [.ref q1, .ref q3, .ref q5, .ref q7, .ref q9, .ref q11, .ref q13, .ref q15, .null, .null, .null, .null, .int 0, .int 0, .int 0, .int 0])), (q1, .inl (k2, 40, .inl (fun _ => 0))), (q3, .inl (k4, 40, .inl (fun _ => 0))), (q5, .inl (k6, 40, .inl (fun _ => 0))), (q7, .inl (k8, 40, .inl (fun _ => 0))), (q9, .inl (k10, 960, .inl (fun _ => 0))), (q11, .inl (k12, 300, .inl (fun _ => 0))), (q13, .inl (k14, 300, .inl (fun _ => 0))), (q15, .inl (k16, 300, .inl (fun _ => 0)))] := hD
  refine lv_aload_n hx hb dX8_init_72 rfl (lv_at hl 0 rfl) ?_
  refine lv_sipush (v := 300) hx hb dX8_init_73 (by decide) ?_
  refine va_newa (D := D) (atype := .int) (ty := .int) (n := 300) (N' := 300) (a0 := (300, .inl (fun _ => 0))) hx hb (hg _ w297) rfl hK hP hD hS hA (fun _ => rfl) (by decide) (by decide) (by decide) (Nat.le_of_ble_eq_true rfl) (Nat.le_of_ble_eq_true rfl) dX8_init_76 (fun q17 k18 H hK hP hD hS => ?_)
  have hP : va_P D vwCl [(h0, .inr (8, [.ref q1, .ref q3, .ref q5, .ref q7, .ref q9, .ref q11, .ref q13, .ref q15, .null, .null, .null, .null, .int 0, .int 0, .int 0, .int 0])), (q1, .inl (k2, 40, .inl (fun _ => 0))), (q3, .inl (k4, 40, .inl (fun _ => 0))), (q5, .inl (k6, 40, .inl (fun _ => 0))), (q7, .inl (k8, 40, .inl (fun _ => 0))), (q9, .inl (k10, 960, .inl (fun _ => 0))), (q11, .inl (k12, 300, .inl (fun _ => 0))), (q13, .inl (k14, 300, .inl (fun _ => 0))), (q15, .inl (k16, 300, .inl (fun _ => 0))), (q17, .inl (k18, 300, .inl (fun _ => 0)))] H := hP
  have hD : va_D A [(h0, .inr (8, [.ref q1, .ref q3, .ref q5, .ref q7, .ref q9, .ref q11, .ref q13, .ref q15, .null, .null, .null, .null, .int 0, .int 0, .int 0, .int 0])), (q1, .inl (k2, 40, .inl (fun _ => 0))), (q3, .inl (k4, 40, .inl (fun _ => 0))), (q5, .inl (k6, 40, .inl (fun _ => 0))), (q7, .inl (k8, 40, .inl (fun _ => 0))), (q9, .inl (k10, 960, .inl (fun _ => 0))), (q11, .inl (k12, 300, .inl (fun _ => 0))), (q13, .inl (k14, 300, .inl (fun _ => 0))), (q15, .inl (k16, 300, .inl (fun _ => 0))), (q17, .inl (k18, 300, .inl (fun _ => 0)))] := hD
  have hK : va_K D vwCl [(k2, .int), (k4, .int), (k6, .boolean), (k8, .int), (k10, .int), (k12, .int), (k14, .int), (k16, .int), (k18, .int)] s := hK
  refine va_putF (D := D) (ci := 8) (v := .ref q17) (ty := tyX8 8) (C := RX8) (T := TX8) (N := 16) hx hb hg inX8 tyX8 tyX8_ok nmX8 hown hK hP hD hS 0 rfl rfl 8 (by decide) (hg _ w386) (fun _ h9 => h9) rfl hin rfl (tyX8_ok 8 (by decide)) rfl rfl (Nat.le_of_ble_eq_true rfl) dX8_init_78 (fun H locs hP hD hS => ?_)
  have hP : va_P D vwCl [(h0, .inr (8, [.ref q1, .ref q3, .ref q5, .ref q7, .ref q9, .ref q11, .ref q13, .ref q15, .ref q17, .null, .null, .null, .int 0, .int 0, .int 0, .int 0])), (q1, .inl (k2, 40, .inl (fun _ => 0))), (q3, .inl (k4, 40, .inl (fun _ => 0))), (q5, .inl (k6, 40, .inl (fun _ => 0))), (q7, .inl (k8, 40, .inl (fun _ => 0))), (q9, .inl (k10, 960, .inl (fun _ => 0))), (q11, .inl (k12, 300, .inl (fun _ => 0))), (q13, .inl (k14, 300, .inl (fun _ => 0))), (q15, .inl (k16, 300, .inl (fun _ => 0))), (q17, .inl (k18, 300, .inl (fun _ => 0)))] H := hP
  have hD : va_D A [(h0, .inr (8, [.ref q1, .ref q3, .ref q5, .ref q7, .ref q9, .ref q11, .ref q13, .ref q15, .ref q17, .null, .null, .null, .int 0, .int 0, .int 0, .int 0])), (q1, .inl (k2, 40, .inl (fun _ => 0))), (q3, .inl (k4, 40, .inl (fun _ => 0))), (q5, .inl (k6, 40, .inl (fun _ => 0))), (q7, .inl (k8, 40, .inl (fun _ => 0))), (q9, .inl (k10, 960, .inl (fun _ => 0))), (q11, .inl (k12, 300, .inl (fun _ => 0))), (q13, .inl (k14, 300, .inl (fun _ => 0))), (q15, .inl (k16, 300, .inl (fun _ => 0))), (q17, .inl (k18, 300, .inl (fun _ => 0)))] := hD
  refine lv_aload_n hx hb dX8_init_81 rfl (lv_at hl 0 rfl) ?_
  refine lv_sipush (v := 2400) hx hb dX8_init_82 (by decide) ?_
  refine va_newa (D := D) (atype := .int) (ty := .int) (n := 2400) (N' := 2400) (a0 := (2400, .inl (fun _ => 0))) hx hb (hg _ w297) rfl hK hP hD hS hA (fun _ => rfl) (by decide) (by decide) (by decide) (Nat.le_of_ble_eq_true rfl) (Nat.le_of_ble_eq_true rfl) dX8_init_85 (fun q19 k20 H hK hP hD hS => ?_)
  have hP : va_P D vwCl [(h0, .inr (8, [.ref q1, .ref q3, .ref q5, .ref q7, .ref q9, .ref q11, .ref q13, .ref q15, .ref q17, .null, .null, .null, .int 0, .int 0, .int 0, .int 0])), (q1, .inl (k2, 40, .inl (fun _ => 0))), (q3, .inl (k4, 40, .inl (fun _ => 0))), (q5, .inl (k6, 40, .inl (fun _ => 0))), (q7, .inl (k8, 40, .inl (fun _ => 0))), (q9, .inl (k10, 960, .inl (fun _ => 0))), (q11, .inl (k12, 300, .inl (fun _ => 0))), (q13, .inl (k14, 300, .inl (fun _ => 0))), (q15, .inl (k16, 300, .inl (fun _ => 0))), (q17, .inl (k18, 300, .inl (fun _ => 0))), (q19, .inl (k20, 2400, .inl (fun _ => 0)))] H := hP
  have hD : va_D A [(h0, .inr (8, [.ref q1, .ref q3, .ref q5, .ref q7, .ref q9, .ref q11, .ref q13, .ref q15, .ref q17, .null, .null, .null, .int 0, .int 0, .int 0, .int 0])), (q1, .inl (k2, 40, .inl (fun _ => 0))), (q3, .inl (k4, 40, .inl (fun _ => 0))), (q5, .inl (k6, 40, .inl (fun _ => 0))), (q7, .inl (k8, 40, .inl (fun _ => 0))), (q9, .inl (k10, 960, .inl (fun _ => 0))), (q11, .inl (k12, 300, .inl (fun _ => 0))), (q13, .inl (k14, 300, .inl (fun _ => 0))), (q15, .inl (k16, 300, .inl (fun _ => 0))), (q17, .inl (k18, 300, .inl (fun _ => 0))), (q19, .inl (k20, 2400, .inl (fun _ => 0)))] := hD
  have hK : va_K D vwCl [(k2, .int), (k4, .int), (k6, .boolean), (k8, .int), (k10, .int), (k12, .int), (k14, .int), (k16, .int), (k18, .int), (k20, .int)] s := hK
  refine va_putF (D := D) (ci := 8) (v := .ref q19) (ty := tyX8 9) (C := RX8) (T := TX8) (N := 16) hx hb hg inX8 tyX8 tyX8_ok nmX8 hown hK hP hD hS 0 rfl rfl 9 (by decide) (hg _ w387) (fun _ h9 => h9) rfl hin rfl (tyX8_ok 9 (by decide)) rfl rfl (Nat.le_of_ble_eq_true rfl) dX8_init_87 (fun H locs hP hD hS => ?_)
  have hP : va_P D vwCl [(h0, .inr (8, [.ref q1, .ref q3, .ref q5, .ref q7, .ref q9, .ref q11, .ref q13, .ref q15, .ref q17, .ref q19, .null, .null, .int 0, .int 0, .int 0, .int 0])), (q1, .inl (k2, 40, .inl (fun _ => 0))), (q3, .inl (k4, 40, .inl (fun _ => 0))), (q5, .inl (k6, 40, .inl (fun _ => 0))), (q7, .inl (k8, 40, .inl (fun _ => 0))), (q9, .inl (k10, 960, .inl (fun _ => 0))), (q11, .inl (k12, 300, .inl (fun _ => 0))), (q13, .inl (k14, 300, .inl (fun _ => 0))), (q15, .inl (k16, 300, .inl (fun _ => 0))), (q17, .inl (k18, 300, .inl (fun _ => 0))), (q19, .inl (k20, 2400, .inl (fun _ => 0)))] H := hP
  have hD : va_D A [(h0, .inr (8, [.ref q1, .ref q3, .ref q5, .ref q7, .ref q9, .ref q11, .ref q13, .ref q15, .ref q17, .ref q19, .null, .null, .int 0, .int 0, .int 0, .int 0])), (q1, .inl (k2, 40, .inl (fun _ => 0))), (q3, .inl (k4, 40, .inl (fun _ => 0))), (q5, .inl (k6, 40, .inl (fun _ => 0))), (q7, .inl (k8, 40, .inl (fun _ => 0))), (q9, .inl (k10, 960, .inl (fun _ => 0))), (q11, .inl (k12, 300, .inl (fun _ => 0))), (q13, .inl (k14, 300, .inl (fun _ => 0))), (q15, .inl (k16, 300, .inl (fun _ => 0))), (q17, .inl (k18, 300, .inl (fun _ => 0))), (q19, .inl (k20, 2400, .inl (fun _ => 0)))] := hD
  refine lv_aload_n hx hb dX8_init_90 rfl (lv_at hl 0 rfl) ?_
  refine lv_sipush (v := 512) hx hb dX8_init_91 (by decide) ?_
  refine va_newa (D := D) (atype := .int) (ty := .int) (n := 512) (N' := 512) (a0 := (512, .inl (fun _ => 0))) hx hb (hg _ w297) rfl hK hP hD hS hA (fun _ => rfl) (by decide) (by decide) (by decide) (Nat.le_of_ble_eq_true rfl) (Nat.le_of_ble_eq_true rfl) dX8_init_94 (fun q21 k22 H hK hP hD hS => ?_)
  have hP : va_P D vwCl [(h0, .inr (8, [.ref q1, .ref q3, .ref q5, .ref q7, .ref q9, .ref q11, .ref q13, .ref q15, .ref q17, .ref q19, .null, .null, .int 0, .int 0, .int 0, .int 0])), (q1, .inl (k2, 40, .inl (fun _ => 0))), (q3, .inl (k4, 40, .inl (fun _ => 0))), (q5, .inl (k6, 40, .inl (fun _ => 0))), (q7, .inl (k8, 40, .inl (fun _ => 0))), (q9, .inl (k10, 960, .inl (fun _ => 0))), (q11, .inl (k12, 300, .inl (fun _ => 0))), (q13, .inl (k14, 300, .inl (fun _ => 0))), (q15, .inl (k16, 300, .inl (fun _ => 0))), (q17, .inl (k18, 300, .inl (fun _ => 0))), (q19, .inl (k20, 2400, .inl (fun _ => 0))), (q21, .inl (k22, 512, .inl (fun _ => 0)))] H := hP
  have hD : va_D A [(h0, .inr (8, [.ref q1, .ref q3, .ref q5, .ref q7, .ref q9, .ref q11, .ref q13, .ref q15, .ref q17, .ref q19, .null, .null, .int 0, .int 0, .int 0, .int 0])), (q1, .inl (k2, 40, .inl (fun _ => 0))), (q3, .inl (k4, 40, .inl (fun _ => 0))), (q5, .inl (k6, 40, .inl (fun _ => 0))), (q7, .inl (k8, 40, .inl (fun _ => 0))), (q9, .inl (k10, 960, .inl (fun _ => 0))), (q11, .inl (k12, 300, .inl (fun _ => 0))), (q13, .inl (k14, 300, .inl (fun _ => 0))), (q15, .inl (k16, 300, .inl (fun _ => 0))), (q17, .inl (k18, 300, .inl (fun _ => 0))), (q19, .inl (k20, 2400, .inl (fun _ => 0))), (q21, .inl (k22, 512, .inl (fun _ => 0)))] := hD
  have hK : va_K D vwCl [(k2, .int), (k4, .int), (k6, .boolean), (k8, .int), (k10, .int), (k12, .int), (k14, .int), (k16, .int), (k18, .int), (k20, .int), (k22, .int)] s := hK
  refine va_put (D := D) (ci := 8) (v := .ref q21) (ty := tyX8 10) (C := RX8) (T := TX8) (N := 16) hx hb hg inX8 tyX8 tyX8_ok nmX8 hown hK hP hD hS 0 rfl rfl 10 (by decide) (hg _ w388) (fun _ h9 => h9) rfl (tyX8_ok 10 (by decide)) rfl rfl (Nat.le_of_ble_eq_true rfl) dX8_init_96 (fun H locs hP hD hS => ?_)
  have hP : va_P D vwCl [(h0, .inr (8, [.ref q1, .ref q3, .ref q5, .ref q7, .ref q9, .ref q11, .ref q13, .ref q15, .ref q17, .ref q19, .ref q21, .null, .int 0, .int 0, .int 0, .int 0])), (q1, .inl (k2, 40, .inl (fun _ => 0))), (q3, .inl (k4, 40, .inl (fun _ => 0))), (q5, .inl (k6, 40, .inl (fun _ => 0))), (q7, .inl (k8, 40, .inl (fun _ => 0))), (q9, .inl (k10, 960, .inl (fun _ => 0))), (q11, .inl (k12, 300, .inl (fun _ => 0))), (q13, .inl (k14, 300, .inl (fun _ => 0))), (q15, .inl (k16, 300, .inl (fun _ => 0))), (q17, .inl (k18, 300, .inl (fun _ => 0))), (q19, .inl (k20, 2400, .inl (fun _ => 0))), (q21, .inl (k22, 512, .inl (fun _ => 0)))] H := hP
  have hD : va_D A [(h0, .inr (8, [.ref q1, .ref q3, .ref q5, .ref q7, .ref q9, .ref q11, .ref q13, .ref q15, .ref q17, .ref q19, .ref q21, .null, .int 0, .int 0, .int 0, .int 0])), (q1, .inl (k2, 40, .inl (fun _ => 0))), (q3, .inl (k4, 40, .inl (fun _ => 0))), (q5, .inl (k6, 40, .inl (fun _ => 0))), (q7, .inl (k8, 40, .inl (fun _ => 0))), (q9, .inl (k10, 960, .inl (fun _ => 0))), (q11, .inl (k12, 300, .inl (fun _ => 0))), (q13, .inl (k14, 300, .inl (fun _ => 0))), (q15, .inl (k16, 300, .inl (fun _ => 0))), (q17, .inl (k18, 300, .inl (fun _ => 0))), (q19, .inl (k20, 2400, .inl (fun _ => 0))), (q21, .inl (k22, 512, .inl (fun _ => 0)))] := hD
  refine lv_aload_n hx hb dX8_init_99 rfl (lv_at hl 0 rfl) ?_
  refine lv_sipush (v := 512) hx hb dX8_init_100 (by decide) ?_
  refine va_newa (D := D) (atype := .int) (ty := .int) (n := 512) (N' := 512) (a0 := (512, .inl (fun _ => 0))) hx hb (hg _ w297) rfl hK hP hD hS hA (fun _ => rfl) (by decide) (by decide) (by decide) (Nat.le_of_ble_eq_true rfl) (Nat.le_of_ble_eq_true rfl) dX8_init_103 (fun q23 k24 H hK hP hD hS => ?_)
  have hP : va_P D vwCl [(h0, .inr (8, [.ref q1, .ref q3, .ref q5, .ref q7, .ref q9, .ref q11, .ref q13, .ref q15, .ref q17, .ref q19, .ref q21, .null, .int 0, .int 0, .int 0, .int 0])), (q1, .inl (k2, 40, .inl (fun _ => 0))), (q3, .inl (k4, 40, .inl (fun _ => 0))), (q5, .inl (k6, 40, .inl (fun _ => 0))), (q7, .inl (k8, 40, .inl (fun _ => 0))), (q9, .inl (k10, 960, .inl (fun _ => 0))), (q11, .inl (k12, 300, .inl (fun _ => 0))), (q13, .inl (k14, 300, .inl (fun _ => 0))), (q15, .inl (k16, 300, .inl (fun _ => 0))), (q17, .inl (k18, 300, .inl (fun _ => 0))), (q19, .inl (k20, 2400, .inl (fun _ => 0))), (q21, .inl (k22, 512, .inl (fun _ => 0))), (q23, .inl (k24, 512, .inl (fun _ => 0)))] H := hP
  have hD : va_D A [(h0, .inr (8, [.ref q1, .ref q3, .ref q5, .ref q7, .ref q9, .ref q11, .ref q13, .ref q15, .ref q17, .ref q19, .ref q21, .null, .int 0, .int 0, .int 0, .int 0])), (q1, .inl (k2, 40, .inl (fun _ => 0))), (q3, .inl (k4, 40, .inl (fun _ => 0))), (q5, .inl (k6, 40, .inl (fun _ => 0))), (q7, .inl (k8, 40, .inl (fun _ => 0))), (q9, .inl (k10, 960, .inl (fun _ => 0))), (q11, .inl (k12, 300, .inl (fun _ => 0))), (q13, .inl (k14, 300, .inl (fun _ => 0))), (q15, .inl (k16, 300, .inl (fun _ => 0))), (q17, .inl (k18, 300, .inl (fun _ => 0))), (q19, .inl (k20, 2400, .inl (fun _ => 0))), (q21, .inl (k22, 512, .inl (fun _ => 0))), (q23, .inl (k24, 512, .inl (fun _ => 0)))] := hD
  have hK : va_K D vwCl [(k2, .int), (k4, .int), (k6, .boolean), (k8, .int), (k10, .int), (k12, .int), (k14, .int), (k16, .int), (k18, .int), (k20, .int), (k22, .int), (k24, .int)] s := hK
  refine va_put (D := D) (ci := 8) (v := .ref q23) (ty := tyX8 11) (C := RX8) (T := TX8) (N := 16) hx hb hg inX8 tyX8 tyX8_ok nmX8 hown hK hP hD hS 0 rfl rfl 11 (by decide) (hg _ w389) (fun _ h9 => h9) rfl (tyX8_ok 11 (by decide)) rfl rfl (Nat.le_of_ble_eq_true rfl) dX8_init_105 (fun H locs hP hD hS => ?_)
  have hP : va_P D vwCl [(h0, .inr (8, [.ref q1, .ref q3, .ref q5, .ref q7, .ref q9, .ref q11, .ref q13, .ref q15, .ref q17, .ref q19, .ref q21, .ref q23, .int 0, .int 0, .int 0, .int 0])), (q1, .inl (k2, 40, .inl (fun _ => 0))), (q3, .inl (k4, 40, .inl (fun _ => 0))), (q5, .inl (k6, 40, .inl (fun _ => 0))), (q7, .inl (k8, 40, .inl (fun _ => 0))), (q9, .inl (k10, 960, .inl (fun _ => 0))), (q11, .inl (k12, 300, .inl (fun _ => 0))), (q13, .inl (k14, 300, .inl (fun _ => 0))), (q15, .inl (k16, 300, .inl (fun _ => 0))), (q17, .inl (k18, 300, .inl (fun _ => 0))), (q19, .inl (k20, 2400, .inl (fun _ => 0))), (q21, .inl (k22, 512, .inl (fun _ => 0))), (q23, .inl (k24, 512, .inl (fun _ => 0)))] H := hP
  have hD : va_D A [(h0, .inr (8, [.ref q1, .ref q3, .ref q5, .ref q7, .ref q9, .ref q11, .ref q13, .ref q15, .ref q17, .ref q19, .ref q21, .ref q23, .int 0, .int 0, .int 0, .int 0])), (q1, .inl (k2, 40, .inl (fun _ => 0))), (q3, .inl (k4, 40, .inl (fun _ => 0))), (q5, .inl (k6, 40, .inl (fun _ => 0))), (q7, .inl (k8, 40, .inl (fun _ => 0))), (q9, .inl (k10, 960, .inl (fun _ => 0))), (q11, .inl (k12, 300, .inl (fun _ => 0))), (q13, .inl (k14, 300, .inl (fun _ => 0))), (q15, .inl (k16, 300, .inl (fun _ => 0))), (q17, .inl (k18, 300, .inl (fun _ => 0))), (q19, .inl (k20, 2400, .inl (fun _ => 0))), (q21, .inl (k22, 512, .inl (fun _ => 0))), (q23, .inl (k24, 512, .inl (fun _ => 0)))] := hD
  refine lv_aload_n hx hb dX8_init_108 rfl (lv_at hl 0 rfl) ?_
  refine va_get (D := D) (ci := 8) (v := .ref q9) (C := RX8) (T := TX8) (N := 16) hx hb hg inX8 hown hK hP 0 rfl rfl 4 (by decide) (hg _ w378) (fun _ h9 => h9) rfl dX8_init_109 ?_
  refine lv_iconst (v := (-1)) hx hb dX8_init_112 (by decide) ?_
  refine g_void (wr := [(h0, .inr (8, [.ref q1, .ref q3, .ref q5, .ref q7, .ref q9, .ref q11, .ref q13, .ref q15, .ref q17, .ref q19, .ref q21, .ref q23, .int 0, .int 0, .int 0, .int 0])), (q1, .inl (k2, 40, .inl (fun _ => 0))), (q3, .inl (k4, 40, .inl (fun _ => 0))), (q5, .inl (k6, 40, .inl (fun _ => 0))), (q7, .inl (k8, 40, .inl (fun _ => 0))), (q11, .inl (k12, 300, .inl (fun _ => 0))), (q13, .inl (k14, 300, .inl (fun _ => 0))), (q15, .inl (k16, 300, .inl (fun _ => 0))), (q17, .inl (k18, 300, .inl (fun _ => 0))), (q19, .inl (k20, 2400, .inl (fun _ => 0))), (q21, .inl (k22, 512, .inl (fun _ => 0))), (q23, .inl (k24, 512, .inl (fun _ => 0)))]) (tr := [(k2, .int), (k4, .int), (k6, .boolean), (k8, .int), (k12, .int), (k14, .int), (k16, .int), (k18, .int), (k20, .int), (k22, .int), (k24, .int)]) (g_runS (As := [.ref q9, .int (-1)]) (rest := []) (wc := [(q9, .inl (k10, 960, .inl ((fun _ => 0))))]) (tc := [(k10, .int)]) hx hb hml hown hg gw_self hP hD hK hS hA hnw hgk [5] [4] (by decide) rfl rfl (c_fillN l D ks H.size q9 k10 960 (fun _ => 0) (-1) (by decide)) w370 w371 w165 w372 hdS_yJ7_fill_53178 ⟨Nat.le_of_ble_eq_true rfl, Nat.le_of_ble_eq_true rfl⟩ rfl hl.1 rfl (Nat.le_of_ble_eq_true rfl) dX8_init_113 ⟨Nat.le_of_ble_eq_true rfl, Nat.le_of_ble_eq_true rfl⟩) hP hD hK hS hA [5] [0, 1, 2, 3, 4, 6, 7, 8, 9, 10, 11, 12] [0, 1, 2, 3, 5, 6, 7, 8, 9, 10, 11] rfl rfl (by decide) (by decide) rfl (fun u27 H locs hw26 hP hD hK hS => ?_)
  obtain ⟨g_25, rfl⟩ : ∃ z, z = u27 := ⟨_, rfl⟩
  have hw26 : ∀ q : Nat, g_25 q = if q < 960 then (-1) else (fun _ => 0) q := hw26
  have hP : va_P D vwCl [(h0, .inr (8, [.ref q1, .ref q3, .ref q5, .ref q7, .ref q9, .ref q11, .ref q13, .ref q15, .ref q17, .ref q19, .ref q21, .ref q23, .int 0, .int 0, .int 0, .int 0])), (q1, .inl (k2, 40, .inl (fun _ => 0))), (q3, .inl (k4, 40, .inl (fun _ => 0))), (q5, .inl (k6, 40, .inl (fun _ => 0))), (q7, .inl (k8, 40, .inl (fun _ => 0))), (q11, .inl (k12, 300, .inl (fun _ => 0))), (q13, .inl (k14, 300, .inl (fun _ => 0))), (q15, .inl (k16, 300, .inl (fun _ => 0))), (q17, .inl (k18, 300, .inl (fun _ => 0))), (q19, .inl (k20, 2400, .inl (fun _ => 0))), (q21, .inl (k22, 512, .inl (fun _ => 0))), (q23, .inl (k24, 512, .inl (fun _ => 0))), (q9, .inl (k10, 960, .inl (g_25)))] H := hP
  have hD : va_D A [(h0, .inr (8, [.ref q1, .ref q3, .ref q5, .ref q7, .ref q9, .ref q11, .ref q13, .ref q15, .ref q17, .ref q19, .ref q21, .ref q23, .int 0, .int 0, .int 0, .int 0])), (q1, .inl (k2, 40, .inl (fun _ => 0))), (q3, .inl (k4, 40, .inl (fun _ => 0))), (q5, .inl (k6, 40, .inl (fun _ => 0))), (q7, .inl (k8, 40, .inl (fun _ => 0))), (q11, .inl (k12, 300, .inl (fun _ => 0))), (q13, .inl (k14, 300, .inl (fun _ => 0))), (q15, .inl (k16, 300, .inl (fun _ => 0))), (q17, .inl (k18, 300, .inl (fun _ => 0))), (q19, .inl (k20, 2400, .inl (fun _ => 0))), (q21, .inl (k22, 512, .inl (fun _ => 0))), (q23, .inl (k24, 512, .inl (fun _ => 0))), (q9, .inl (k10, 960, .inl (g_25)))] := hD
  have hK : va_K D vwCl [(k2, .int), (k4, .int), (k6, .boolean), (k8, .int), (k12, .int), (k14, .int), (k16, .int), (k18, .int), (k20, .int), (k22, .int), (k24, .int), (k10, .int)] s := hK
  refine lv_aload_n hx hb dX8_init_116 rfl (lv_at hl 0 rfl) ?_
  refine va_get (D := D) (ci := 8) (v := .ref q5) (C := RX8) (T := TX8) (N := 16) hx hb hg inX8 hown hK hP 0 rfl rfl 2 (by decide) (hg _ w376) (fun _ h9 => h9) rfl dX8_init_117 ?_
  refine lv_iconst (v := 0) hx hb dX8_init_120 (by decide) ?_
  refine lv_iconst (v := 1) hx hb dX8_init_121 (by decide) ?_
  refine va_zast (D := D) (i := 0) (x := 1) hx hb hK hP hD hS 3 2 rfl rfl (vp_in_nI (n := 0) (N := 40) (by decide) (by decide)) dX8_init_122 (fun H locs hP hD hS => ?_)
  have hP : va_P D vwCl [(h0, .inr (8, [.ref q1, .ref q3, .ref q5, .ref q7, .ref q9, .ref q11, .ref q13, .ref q15, .ref q17, .ref q19, .ref q21, .ref q23, .int 0, .int 0, .int 0, .int 0])), (q1, .inl (k2, 40, .inl (fun _ => 0))), (q3, .inl (k4, 40, .inl (fun _ => 0))), (q5, .inl (k6, 40, .inl (upd (fun _ => 0) 0 1))), (q7, .inl (k8, 40, .inl (fun _ => 0))), (q11, .inl (k12, 300, .inl (fun _ => 0))), (q13, .inl (k14, 300, .inl (fun _ => 0))), (q15, .inl (k16, 300, .inl (fun _ => 0))), (q17, .inl (k18, 300, .inl (fun _ => 0))), (q19, .inl (k20, 2400, .inl (fun _ => 0))), (q21, .inl (k22, 512, .inl (fun _ => 0))), (q23, .inl (k24, 512, .inl (fun _ => 0))), (q9, .inl (k10, 960, .inl (g_25)))] H := hP
  have hD : va_D A [(h0, .inr (8, [.ref q1, .ref q3, .ref q5, .ref q7, .ref q9, .ref q11, .ref q13, .ref q15, .ref q17, .ref q19, .ref q21, .ref q23, .int 0, .int 0, .int 0, .int 0])), (q1, .inl (k2, 40, .inl (fun _ => 0))), (q3, .inl (k4, 40, .inl (fun _ => 0))), (q5, .inl (k6, 40, .inl (upd (fun _ => 0) 0 1))), (q7, .inl (k8, 40, .inl (fun _ => 0))), (q11, .inl (k12, 300, .inl (fun _ => 0))), (q13, .inl (k14, 300, .inl (fun _ => 0))), (q15, .inl (k16, 300, .inl (fun _ => 0))), (q17, .inl (k18, 300, .inl (fun _ => 0))), (q19, .inl (k20, 2400, .inl (fun _ => 0))), (q21, .inl (k22, 512, .inl (fun _ => 0))), (q23, .inl (k24, 512, .inl (fun _ => 0))), (q9, .inl (k10, 960, .inl (g_25)))] := hD
  refine lv_aload_n hx hb dX8_init_123 rfl (lv_at hl 0 rfl) ?_
  refine lv_iconst (v := 1) hx hb dX8_init_124 (by decide) ?_
  refine va_put (D := D) (ci := 8) (v := .int 1) (ty := tyX8 12) (C := RX8) (T := TX8) (N := 16) hx hb hg inX8 tyX8 tyX8_ok nmX8 hown hK hP hD hS 0 rfl rfl 12 (by decide) (hg _ w390) (fun _ h9 => h9) rfl (tyX8_ok 12 (by decide)) rfl rfl (Nat.le_of_ble_eq_true rfl) dX8_init_125 (fun H locs hP hD hS => ?_)
  have hP : va_P D vwCl [(h0, .inr (8, [.ref q1, .ref q3, .ref q5, .ref q7, .ref q9, .ref q11, .ref q13, .ref q15, .ref q17, .ref q19, .ref q21, .ref q23, .int 1, .int 0, .int 0, .int 0])), (q1, .inl (k2, 40, .inl (fun _ => 0))), (q3, .inl (k4, 40, .inl (fun _ => 0))), (q5, .inl (k6, 40, .inl (upd (fun _ => 0) 0 1))), (q7, .inl (k8, 40, .inl (fun _ => 0))), (q11, .inl (k12, 300, .inl (fun _ => 0))), (q13, .inl (k14, 300, .inl (fun _ => 0))), (q15, .inl (k16, 300, .inl (fun _ => 0))), (q17, .inl (k18, 300, .inl (fun _ => 0))), (q19, .inl (k20, 2400, .inl (fun _ => 0))), (q21, .inl (k22, 512, .inl (fun _ => 0))), (q23, .inl (k24, 512, .inl (fun _ => 0))), (q9, .inl (k10, 960, .inl (g_25)))] H := hP
  have hD : va_D A [(h0, .inr (8, [.ref q1, .ref q3, .ref q5, .ref q7, .ref q9, .ref q11, .ref q13, .ref q15, .ref q17, .ref q19, .ref q21, .ref q23, .int 1, .int 0, .int 0, .int 0])), (q1, .inl (k2, 40, .inl (fun _ => 0))), (q3, .inl (k4, 40, .inl (fun _ => 0))), (q5, .inl (k6, 40, .inl (upd (fun _ => 0) 0 1))), (q7, .inl (k8, 40, .inl (fun _ => 0))), (q11, .inl (k12, 300, .inl (fun _ => 0))), (q13, .inl (k14, 300, .inl (fun _ => 0))), (q15, .inl (k16, 300, .inl (fun _ => 0))), (q17, .inl (k18, 300, .inl (fun _ => 0))), (q19, .inl (k20, 2400, .inl (fun _ => 0))), (q21, .inl (k22, 512, .inl (fun _ => 0))), (q23, .inl (k24, 512, .inl (fun _ => 0))), (q9, .inl (k10, 960, .inl (g_25)))] := hD
  refine W.widen (k := 12) (n := 5744) (Nat.le_of_ble_eq_true rfl) (Nat.le_of_ble_eq_true rfl) ?_
  have hP9 := hP.sub (ws' := [(h0, .inr (8, [.ref q1, .ref q3, .ref q5, .ref q7, .ref q9, .ref q11, .ref q13, .ref q15, .ref q17, .ref q19, .ref q21, .ref q23, .int 1, .int 0, .int 0, .int 0])), (q1, .inl (k2, 40, .inl (fun _ => 0))), (q3, .inl (k4, 40, .inl (fun _ => 0))), (q5, .inl (k6, 40, .inl (upd (fun _ => 0) 0 1))), (q7, .inl (k8, 40, .inl (fun _ => 0))), (q9, .inl (k10, 960, .inl (g_25))), (q11, .inl (k12, 300, .inl (fun _ => 0))), (q13, .inl (k14, 300, .inl (fun _ => 0))), (q15, .inl (k16, 300, .inl (fun _ => 0))), (q17, .inl (k18, 300, .inl (fun _ => 0))), (q19, .inl (k20, 2400, .inl (fun _ => 0))), (q21, .inl (k22, 512, .inl (fun _ => 0))), (q23, .inl (k24, 512, .inl (fun _ => 0)))]) [0, 1, 2, 3, 4, 12, 5, 6, 7, 8, 9, 10, 11] rfl
  have hD9 := hD.sub (ws' := [(h0, .inr (8, [.ref q1, .ref q3, .ref q5, .ref q7, .ref q9, .ref q11, .ref q13, .ref q15, .ref q17, .ref q19, .ref q21, .ref q23, .int 1, .int 0, .int 0, .int 0])), (q1, .inl (k2, 40, .inl (fun _ => 0))), (q3, .inl (k4, 40, .inl (fun _ => 0))), (q5, .inl (k6, 40, .inl (upd (fun _ => 0) 0 1))), (q7, .inl (k8, 40, .inl (fun _ => 0))), (q9, .inl (k10, 960, .inl (g_25))), (q11, .inl (k12, 300, .inl (fun _ => 0))), (q13, .inl (k14, 300, .inl (fun _ => 0))), (q15, .inl (k16, 300, .inl (fun _ => 0))), (q17, .inl (k18, 300, .inl (fun _ => 0))), (q19, .inl (k20, 2400, .inl (fun _ => 0))), (q21, .inl (k22, 512, .inl (fun _ => 0))), (q23, .inl (k24, 512, .inl (fun _ => 0)))]) [0, 1, 2, 3, 4, 12, 5, 6, 7, 8, 9, 10, 11] (by decide) rfl
  have hK9 := hK.sub (tys' := [(k2, .int), (k4, .int), (k6, .boolean), (k8, .int), (k10, .int), (k12, .int), (k14, .int), (k16, .int), (k18, .int), (k20, .int), (k22, .int), (k24, .int)]) [0, 1, 2, 3, 11, 4, 5, 6, 7, 8, 9, 10] rfl
  exact W.vret hx hb hr (fun t ht hW => ⟨⟨(q1, q3, q5, q7, q9, q11, q13, q15, q17, q19, q21, q23, k2, k4, k6, k8, k10, k12, k14, k16, k18, k20, k22, k24, g_25), rfl, hw26, by rw [ht]; exact hP9, va_K.moved hW.alike hK9, hD9⟩, hS.F ht⟩) hS.2.2 dX8_init_128
abbrev r_c_isDigitK : Room := { frames := 0, cells := 0, slots := 0, locals := 0 }
abbrev q_c_isDigitK (D : va_G) (i : Nat) (A : Nat → Prop) : Array Value → State → Outcome → State → Prop := va_Qi (fun (r : Int32) (_ : Unit) => r = 0) (fun u t => gq D A ((fun (_ : Unit) => []) u) ((fun (_ : Unit) => ([] : List (ClassId × FieldType))) u) t) A
set_option maxHeartbeats 4000000 in
set_option maxRecDepth 100000 in
theorem c_isDigitK (l : Launch) (D : va_G) (ks : KS) (sz : Nat) (i : Nat) (hi : i < 155) (hw : ¬ kwc i = 32) : Met l yX9_isDigit (Cond.code yX9_isDigit cX9_isDigit 1 (some .boolean) :: GW) r_c_isDigitK (va_Pc [.int (kwc i)] (gp D ks [] [] sz)) (q_c_isDigitK D i (va_A [] sz)) 0 0 (va_A [] sz) := by
  refine g_met (q_c_isDigitK D i) (by decide) (Nat.le_of_ble_eq_true rfl) ?_
  intro p e s m below meth c A ls H locs hx hb hr hml hown hg hlocks hin hnw hgk hP hK hD hS hA hl
  have hown : s.vm.findClass RX9 = some m.cls := hown
  have hl : lv_has ls 1 [(0, .int (kwc i))] := hl
  refine lv_iload_n hx hb dX9_isDigit_0 rfl (lv_at hl 0 rfl) ?_
  refine lv_bipush (v := 48) hx hb dX9_isDigit_1 (by decide) ?_
  refine lv_icmp_lt (tgt := 16) hx hb dX9_isDigit_3 (by decide) (fun q => absurd q (kw48 i hi hw)) (fun _ => ?_)
  refine lv_iload_n hx hb dX9_isDigit_6 rfl (lv_at hl 0 rfl) ?_
  refine lv_bipush (v := 57) hx hb dX9_isDigit_7 (by decide) ?_
  refine lv_icmp_gt (tgt := 16) hx hb dX9_isDigit_9 (by decide) (fun _ => ?_) (fun q => absurd (kw57 i hi hw) q)
  refine lv_iconst (v := 0) hx hb dX9_isDigit_16 (by decide) ?_
  refine W.widen (k := 0) (n := 0) (Nat.le_of_ble_eq_true rfl) (Nat.le_of_ble_eq_true rfl) ?_
  have hP9 := hP.sub (ws' := []) [] rfl
  have hD9 := hD.sub (ws' := []) [] (by decide) rfl
  have hK9 := hK.sub (tys' := []) [] rfl
  exact W.zret (v := 0) hx hb hr rfl (fun t ht hW => ⟨⟨0, (), rfl, (by first | rfl | trivial | assumption | decide), by rw [ht]; exact hP9, va_K.moved hW.alike hK9, hD9⟩, hS.F ht⟩) hS.2.2 dX9_isDigit_17
abbrev r_c_codeOfK : Room := { frames := 1, cells := 0, slots := 0, locals := 20 }
abbrev q_c_codeOfK (D : va_G) (i : Nat) (A : Nat → Prop) : Array Value → State → Outcome → State → Prop := va_Qi (fun (r : Int32) (_ : Unit) => r = kwc i - 97 + 1) (fun u t => gq D A ((fun (_ : Unit) => []) u) ((fun (_ : Unit) => ([] : List (ClassId × FieldType))) u) t) A
set_option maxHeartbeats 4000000 in
set_option maxRecDepth 100000 in
theorem c_codeOfK (l : Launch) (D : va_G) (ks : KS) (sz : Nat) (i : Nat) (hi : i < 155) (hw : ¬ kwc i = 32) : Met l yX9_codeOf (Cond.code yX9_codeOf cX9_codeOf 1 (some .int) :: GW) r_c_codeOfK (va_Pc [.int (kwc i)] (gp D ks [] [] sz)) (q_c_codeOfK D i (va_A [] sz)) 0 0 (va_A [] sz) := by
  refine g_met (q_c_codeOfK D i) (by decide) (Nat.le_of_ble_eq_true rfl) ?_
  intro p e s m below meth c A ls H locs hx hb hr hml hown hg hlocks hin hnw hgk hP hK hD hS hA hl
  have hown : s.vm.findClass RX9 = some m.cls := hown
  have hl : lv_has ls 1 [(0, .int (kwc i))] := hl
  refine lv_iload_n hx hb dX9_codeOf_0 rfl (lv_at hl 0 rfl) ?_
  refine g_int (wr := []) (tr := []) (g_runS (As := [.int (kwc i)]) (rest := []) (wc := []) (tc := []) hx hb hml hown hg gw_self hP hD hK hS hA hnw hgk [] [] (by decide) rfl rfl (c_isDigitK l D ks H.size i hi hw) w249 w250 w157 w251 hdS_yX9_isDigit ⟨Nat.le_of_ble_eq_true rfl, Nat.le_of_ble_eq_true rfl⟩ rfl hl.1 rfl (Nat.le_of_ble_eq_true rfl) dX9_codeOf_1 ⟨Nat.le_of_ble_eq_true rfl, Nat.le_of_ble_eq_true rfl⟩) hP hD hK hS hA [] [] [] rfl rfl (by decide) (by decide) rfl (fun r3 u2 H locs hw1 hP hD hK hS => ?_)
  have hw1 : r3 = 0 := hw1
  subst hw1
  have hP : va_P D vwCl [] H := hP
  have hD : va_D A [] := hD
  have hK : va_K D vwCl [] s := hK
  refine lv_if_eq (tgt := 17) hx hb dX9_codeOf_4 (by decide) (fun _ => ?_) (fun q => absurd (by decide) q)
  refine lv_iload_n hx hb dX9_codeOf_17 rfl (lv_at hl 0 rfl) ?_
  refine lv_bipush (v := 97) hx hb dX9_codeOf_18 (by decide) ?_
  refine lv_isub hx hb dX9_codeOf_20 ?_
  refine lv_iconst (v := 1) hx hb dX9_codeOf_21 (by decide) ?_
  refine lv_iadd hx hb dX9_codeOf_22 ?_
  refine W.widen (k := 0) (n := 0) (Nat.le_of_ble_eq_true rfl) (Nat.le_of_ble_eq_true rfl) ?_
  have hP9 := hP.sub (ws' := []) [] rfl
  have hD9 := hD.sub (ws' := []) [] (by decide) rfl
  have hK9 := hK.sub (tys' := []) [] rfl
  exact W.iret (v := (((kwc i) - 97) + 1)) hx hb hr (fun t ht hW => ⟨⟨(((kwc i) - 97) + 1), (), rfl, (by first | rfl | trivial | assumption | decide), by rw [ht]; exact hP9, va_K.moved hW.alike hK9, hD9⟩, hS.F ht⟩) hS.2.2 dX9_codeOf_23
abbrev r_c_Tape_init : Room := { frames := 4, cells := 5, slots := 16031, locals := 85 }
abbrev q_c_Tape_init (D : va_G) (h0 : Nat) (A : Nat → Prop) : Array Value → State → Outcome → State → Prop := va_Qv (fun (u : Nat × Nat × Nat × Nat × Nat × ClassId × ClassId × ClassId × ClassId × ClassId × (Nat → Int64)) => ∀ j : Nat, j < 28 → u.2.2.2.2.2.2.2.2.2.2 j = kg 155 j) (fun u t => gq D A ((fun (u : Nat × Nat × Nat × Nat × Nat × ClassId × ClassId × ClassId × ClassId × ClassId × (Nat → Int64)) => [(h0, .inr (9, [.ref u.1, .ref u.2.1, .ref u.2.2.1, .ref u.2.2.2.1, .ref u.2.2.2.2.1, .int 0, .int 0, .int 0, .int 0, .int 0, .int 0, .long 0])), (u.1, .inl (u.2.2.2.2.2.1, 4000, .inl (fun _ => 0))), (u.2.1, .inl (u.2.2.2.2.2.2.1, 28, .inr (.inl (u.2.2.2.2.2.2.2.2.2.2)))), (u.2.2.1, .inl (u.2.2.2.2.2.2.2.1, 4001, .inl (fun _ => 0))), (u.2.2.2.1, .inl (u.2.2.2.2.2.2.2.2.1, 4001, .inl (fun _ => 0))), (u.2.2.2.2.1, .inl (u.2.2.2.2.2.2.2.2.2.1, 4001, .inr (.inl (fun _ => 0))))]) u) ((fun (u : Nat × Nat × Nat × Nat × Nat × ClassId × ClassId × ClassId × ClassId × ClassId × (Nat → Int64)) => ([(u.2.2.2.2.2.1, .byte), (u.2.2.2.2.2.2.1, .long), (u.2.2.2.2.2.2.2.1, .int), (u.2.2.2.2.2.2.2.2.1, .int), (u.2.2.2.2.2.2.2.2.2.1, .long)] : List (ClassId × FieldType))) u) t) A
set_option maxHeartbeats 4000000 in
set_option maxRecDepth 100000 in
theorem c_Tape_init (l : Launch) (D : va_G) (ks : KS) (sz : Nat) (h0 : Nat) : Met l yX9_init (Cond.code yX9_init cX9_init 4 none :: GW) r_c_Tape_init (va_Pc [.ref h0] (gp D ks [(h0, .inr (9, [.null, .null, .null, .null, .null, .int 0, .int 0, .int 0, .int 0, .int 0, .int 0, .long 0]))] [] sz)) (q_c_Tape_init D h0 (va_A [(h0, .inr (9, [.null, .null, .null, .null, .null, .int 0, .int 0, .int 0, .int 0, .int 0, .int 0, .long 0]))] sz)) 5 16031 (va_A [(h0, .inr (9, [.null, .null, .null, .null, .null, .int 0, .int 0, .int 0, .int 0, .int 0, .int 0, .long 0]))] sz) := by
  refine g_met (q_c_Tape_init D h0) (by decide) (Nat.le_of_ble_eq_true rfl) ?_
  intro p e s m below meth c A ls H locs hx hb hr hml hown hg hlocks hin hnw hgk hP hK hD hS hA hl
  have hown : s.vm.findClass RX9 = some m.cls := hown
  have hin : meth.name = "<init>" := hin
  have hl : lv_has ls 4 [(0, .ref h0)] := hl
  refine lv_aload_n hx hb dX9_init_0 rfl (lv_at hl 0 rfl) ?_
  refine W.objInit hx hb hown (hg _ w195) (hg _ w188) (hg _ wobj) rfl (by rw [hml]; exact hl.1) rfl dX9_init_1 (Nat.le_of_ble_eq_true rfl) (Nat.le_of_ble_eq_true rfl) ?_
  refine W.eq (g2 := F0 m 4 ls []) rfl ?_
  refine lv_aload_n hx hb dX9_init_4 rfl (lv_at hl 0 rfl) ?_
  refine lv_sipush (v := 4000) hx hb dX9_init_5 (by decide) ?_
  refine va_newa (D := D) (atype := .byte) (ty := .byte) (n := 4000) (N' := 4000) (a0 := (4000, .inl (fun _ => 0))) hx hb (hg _ w295) rfl hK hP hD hS hA (fun _ => rfl) (by decide) (by decide) (by decide) (Nat.le_of_ble_eq_true rfl) (Nat.le_of_ble_eq_true rfl) dX9_init_8 (fun q1 k2 H hK hP hD hS => ?_)
  have hP : va_P D vwCl [(h0, .inr (9, [.null, .null, .null, .null, .null, .int 0, .int 0, .int 0, .int 0, .int 0, .int 0, .long 0])), (q1, .inl (k2, 4000, .inl (fun _ => 0)))] H := hP
  have hD : va_D A [(h0, .inr (9, [.null, .null, .null, .null, .null, .int 0, .int 0, .int 0, .int 0, .int 0, .int 0, .long 0])), (q1, .inl (k2, 4000, .inl (fun _ => 0)))] := hD
  have hK : va_K D vwCl [(k2, .byte)] s := hK
  refine va_putF (D := D) (ci := 9) (v := .ref q1) (ty := tyX9 0) (C := RX9) (T := TX9) (N := 12) hx hb hg inX9 tyX9 tyX9_ok nmX9 hown hK hP hD hS 0 rfl rfl 0 (by decide) (hg _ w252) (fun _ h9 => h9) rfl hin rfl (tyX9_ok 0 (by decide)) rfl rfl (Nat.le_of_ble_eq_true rfl) dX9_init_10 (fun H locs hP hD hS => ?_)
  have hP : va_P D vwCl [(h0, .inr (9, [.ref q1, .null, .null, .null, .null, .int 0, .int 0, .int 0, .int 0, .int 0, .int 0, .long 0])), (q1, .inl (k2, 4000, .inl (fun _ => 0)))] H := hP
  have hD : va_D A [(h0, .inr (9, [.ref q1, .null, .null, .null, .null, .int 0, .int 0, .int 0, .int 0, .int 0, .int 0, .long 0])), (q1, .inl (k2, 4000, .inl (fun _ => 0)))] := hD
  refine lv_aload_n hx hb dX9_init_13 rfl (lv_at hl 0 rfl) ?_
  refine lv_bipush (v := 28) hx hb dX9_init_14 (by decide) ?_
  refine va_newa (D := D) (atype := .long) (ty := .long) (n := 28) (N' := 28) (a0 := (28, .inr (.inl (fun _ => 0)))) hx hb (hg _ w296) rfl hK hP hD hS hA (fun _ => rfl) (by decide) (by decide) (by decide) (Nat.le_of_ble_eq_true rfl) (Nat.le_of_ble_eq_true rfl) dX9_init_16 (fun q3 k4 H hK hP hD hS => ?_)
  have hP : va_P D vwCl [(h0, .inr (9, [.ref q1, .null, .null, .null, .null, .int 0, .int 0, .int 0, .int 0, .int 0, .int 0, .long 0])), (q1, .inl (k2, 4000, .inl (fun _ => 0))), (q3, .inl (k4, 28, .inr (.inl (fun _ => 0))))] H := hP
  have hD : va_D A [(h0, .inr (9, [.ref q1, .null, .null, .null, .null, .int 0, .int 0, .int 0, .int 0, .int 0, .int 0, .long 0])), (q1, .inl (k2, 4000, .inl (fun _ => 0))), (q3, .inl (k4, 28, .inr (.inl (fun _ => 0))))] := hD
  have hK : va_K D vwCl [(k2, .byte), (k4, .long)] s := hK
  refine va_putF (D := D) (ci := 9) (v := .ref q3) (ty := tyX9 1) (C := RX9) (T := TX9) (N := 12) hx hb hg inX9 tyX9 tyX9_ok nmX9 hown hK hP hD hS 0 rfl rfl 1 (by decide) (hg _ w253) (fun _ h9 => h9) rfl hin rfl (tyX9_ok 1 (by decide)) rfl rfl (Nat.le_of_ble_eq_true rfl) dX9_init_18 (fun H locs hP hD hS => ?_)
  have hP : va_P D vwCl [(h0, .inr (9, [.ref q1, .ref q3, .null, .null, .null, .int 0, .int 0, .int 0, .int 0, .int 0, .int 0, .long 0])), (q1, .inl (k2, 4000, .inl (fun _ => 0))), (q3, .inl (k4, 28, .inr (.inl (fun _ => 0))))] H := hP
  have hD : va_D A [(h0, .inr (9, [.ref q1, .ref q3, .null, .null, .null, .int 0, .int 0, .int 0, .int 0, .int 0, .int 0, .long 0])), (q1, .inl (k2, 4000, .inl (fun _ => 0))), (q3, .inl (k4, 28, .inr (.inl (fun _ => 0))))] := hD
  refine lv_aload_n hx hb dX9_init_21 rfl (lv_at hl 0 rfl) ?_
  refine lv_sipush (v := 4001) hx hb dX9_init_22 (by decide) ?_
  refine va_newa (D := D) (atype := .int) (ty := .int) (n := 4001) (N' := 4001) (a0 := (4001, .inl (fun _ => 0))) hx hb (hg _ w297) rfl hK hP hD hS hA (fun _ => rfl) (by decide) (by decide) (by decide) (Nat.le_of_ble_eq_true rfl) (Nat.le_of_ble_eq_true rfl) dX9_init_25 (fun q5 k6 H hK hP hD hS => ?_)
  have hP : va_P D vwCl [(h0, .inr (9, [.ref q1, .ref q3, .null, .null, .null, .int 0, .int 0, .int 0, .int 0, .int 0, .int 0, .long 0])), (q1, .inl (k2, 4000, .inl (fun _ => 0))), (q3, .inl (k4, 28, .inr (.inl (fun _ => 0)))), (q5, .inl (k6, 4001, .inl (fun _ => 0)))] H := hP
  have hD : va_D A [(h0, .inr (9, [.ref q1, .ref q3, .null, .null, .null, .int 0, .int 0, .int 0, .int 0, .int 0, .int 0, .long 0])), (q1, .inl (k2, 4000, .inl (fun _ => 0))), (q3, .inl (k4, 28, .inr (.inl (fun _ => 0)))), (q5, .inl (k6, 4001, .inl (fun _ => 0)))] := hD
  have hK : va_K D vwCl [(k2, .byte), (k4, .long), (k6, .int)] s := hK
  refine va_putF (D := D) (ci := 9) (v := .ref q5) (ty := tyX9 2) (C := RX9) (T := TX9) (N := 12) hx hb hg inX9 tyX9 tyX9_ok nmX9 hown hK hP hD hS 0 rfl rfl 2 (by decide) (hg _ w254) (fun _ h9 => h9) rfl hin rfl (tyX9_ok 2 (by decide)) rfl rfl (Nat.le_of_ble_eq_true rfl) dX9_init_27 (fun H locs hP hD hS => ?_)
  have hP : va_P D vwCl [(h0, .inr (9, [.ref q1, .ref q3, .ref q5, .null, .null, .int 0, .int 0, .int 0, .int 0, .int 0, .int 0, .long 0])), (q1, .inl (k2, 4000, .inl (fun _ => 0))), (q3, .inl (k4, 28, .inr (.inl (fun _ => 0)))), (q5, .inl (k6, 4001, .inl (fun _ => 0)))] H := hP
  have hD : va_D A [(h0, .inr (9, [.ref q1, .ref q3, .ref q5, .null, .null, .int 0, .int 0, .int 0, .int 0, .int 0, .int 0, .long 0])), (q1, .inl (k2, 4000, .inl (fun _ => 0))), (q3, .inl (k4, 28, .inr (.inl (fun _ => 0)))), (q5, .inl (k6, 4001, .inl (fun _ => 0)))] := hD
  refine lv_aload_n hx hb dX9_init_30 rfl (lv_at hl 0 rfl) ?_
  refine lv_sipush (v := 4001) hx hb dX9_init_31 (by decide) ?_
  refine va_newa (D := D) (atype := .int) (ty := .int) (n := 4001) (N' := 4001) (a0 := (4001, .inl (fun _ => 0))) hx hb (hg _ w297) rfl hK hP hD hS hA (fun _ => rfl) (by decide) (by decide) (by decide) (Nat.le_of_ble_eq_true rfl) (Nat.le_of_ble_eq_true rfl) dX9_init_34 (fun q7 k8 H hK hP hD hS => ?_)
  have hP : va_P D vwCl [(h0, .inr (9, [.ref q1, .ref q3, .ref q5, .null, .null, .int 0, .int 0, .int 0, .int 0, .int 0, .int 0, .long 0])), (q1, .inl (k2, 4000, .inl (fun _ => 0))), (q3, .inl (k4, 28, .inr (.inl (fun _ => 0)))), (q5, .inl (k6, 4001, .inl (fun _ => 0))), (q7, .inl (k8, 4001, .inl (fun _ => 0)))] H := hP
  have hD : va_D A [(h0, .inr (9, [.ref q1, .ref q3, .ref q5, .null, .null, .int 0, .int 0, .int 0, .int 0, .int 0, .int 0, .long 0])), (q1, .inl (k2, 4000, .inl (fun _ => 0))), (q3, .inl (k4, 28, .inr (.inl (fun _ => 0)))), (q5, .inl (k6, 4001, .inl (fun _ => 0))), (q7, .inl (k8, 4001, .inl (fun _ => 0)))] := hD
  have hK : va_K D vwCl [(k2, .byte), (k4, .long), (k6, .int), (k8, .int)] s := hK
  refine va_putF (D := D) (ci := 9) (v := .ref q7) (ty := tyX9 3) (C := RX9) (T := TX9) (N := 12) hx hb hg inX9 tyX9 tyX9_ok nmX9 hown hK hP hD hS 0 rfl rfl 3 (by decide) (hg _ w255) (fun _ h9 => h9) rfl hin rfl (tyX9_ok 3 (by decide)) rfl rfl (Nat.le_of_ble_eq_true rfl) dX9_init_36 (fun H locs hP hD hS => ?_)
  have hP : va_P D vwCl [(h0, .inr (9, [.ref q1, .ref q3, .ref q5, .ref q7, .null, .int 0, .int 0, .int 0, .int 0, .int 0, .int 0, .long 0])), (q1, .inl (k2, 4000, .inl (fun _ => 0))), (q3, .inl (k4, 28, .inr (.inl (fun _ => 0)))), (q5, .inl (k6, 4001, .inl (fun _ => 0))), (q7, .inl (k8, 4001, .inl (fun _ => 0)))] H := hP
  have hD : va_D A [(h0, .inr (9, [.ref q1, .ref q3, .ref q5, .ref q7, .null, .int 0, .int 0, .int 0, .int 0, .int 0, .int 0, .long 0])), (q1, .inl (k2, 4000, .inl (fun _ => 0))), (q3, .inl (k4, 28, .inr (.inl (fun _ => 0)))), (q5, .inl (k6, 4001, .inl (fun _ => 0))), (q7, .inl (k8, 4001, .inl (fun _ => 0)))] := hD
  refine lv_aload_n hx hb dX9_init_39 rfl (lv_at hl 0 rfl) ?_
  refine lv_sipush (v := 4001) hx hb dX9_init_40 (by decide) ?_
  refine va_newa (D := D) (atype := .long) (ty := .long) (n := 4001) (N' := 4001) (a0 := (4001, .inr (.inl (fun _ => 0)))) hx hb (hg _ w296) rfl hK hP hD hS hA (fun _ => rfl) (by decide) (by decide) (by decide) (Nat.le_of_ble_eq_true rfl) (Nat.le_of_ble_eq_true rfl) dX9_init_43 (fun q9 k10 H hK hP hD hS => ?_)
  have hP : va_P D vwCl [(h0, .inr (9, [.ref q1, .ref q3, .ref q5, .ref q7, .null, .int 0, .int 0, .int 0, .int 0, .int 0, .int 0, .long 0])), (q1, .inl (k2, 4000, .inl (fun _ => 0))), (q3, .inl (k4, 28, .inr (.inl (fun _ => 0)))), (q5, .inl (k6, 4001, .inl (fun _ => 0))), (q7, .inl (k8, 4001, .inl (fun _ => 0))), (q9, .inl (k10, 4001, .inr (.inl (fun _ => 0))))] H := hP
  have hD : va_D A [(h0, .inr (9, [.ref q1, .ref q3, .ref q5, .ref q7, .null, .int 0, .int 0, .int 0, .int 0, .int 0, .int 0, .long 0])), (q1, .inl (k2, 4000, .inl (fun _ => 0))), (q3, .inl (k4, 28, .inr (.inl (fun _ => 0)))), (q5, .inl (k6, 4001, .inl (fun _ => 0))), (q7, .inl (k8, 4001, .inl (fun _ => 0))), (q9, .inl (k10, 4001, .inr (.inl (fun _ => 0))))] := hD
  have hK : va_K D vwCl [(k2, .byte), (k4, .long), (k6, .int), (k8, .int), (k10, .long)] s := hK
  refine va_putF (D := D) (ci := 9) (v := .ref q9) (ty := tyX9 4) (C := RX9) (T := TX9) (N := 12) hx hb hg inX9 tyX9 tyX9_ok nmX9 hown hK hP hD hS 0 rfl rfl 4 (by decide) (hg _ w256) (fun _ h9 => h9) rfl hin rfl (tyX9_ok 4 (by decide)) rfl rfl (Nat.le_of_ble_eq_true rfl) dX9_init_45 (fun H locs hP hD hS => ?_)
  have hP : va_P D vwCl [(h0, .inr (9, [.ref q1, .ref q3, .ref q5, .ref q7, .ref q9, .int 0, .int 0, .int 0, .int 0, .int 0, .int 0, .long 0])), (q1, .inl (k2, 4000, .inl (fun _ => 0))), (q3, .inl (k4, 28, .inr (.inl (fun _ => 0)))), (q5, .inl (k6, 4001, .inl (fun _ => 0))), (q7, .inl (k8, 4001, .inl (fun _ => 0))), (q9, .inl (k10, 4001, .inr (.inl (fun _ => 0))))] H := hP
  have hD : va_D A [(h0, .inr (9, [.ref q1, .ref q3, .ref q5, .ref q7, .ref q9, .int 0, .int 0, .int 0, .int 0, .int 0, .int 0, .long 0])), (q1, .inl (k2, 4000, .inl (fun _ => 0))), (q3, .inl (k4, 28, .inr (.inl (fun _ => 0)))), (q5, .inl (k6, 4001, .inl (fun _ => 0))), (q7, .inl (k8, 4001, .inl (fun _ => 0))), (q9, .inl (k10, 4001, .inr (.inl (fun _ => 0))))] := hD
  refine lv_iconst (v := 0) hx hb dX9_init_48 (by decide) ?_
  refine lv_istore_n (lv' := [(1, .int 0), (0, .ref h0)]) hx hb dX9_init_49 rfl hl (by decide) rfl (fun ls hl => ?_)
  refine lv_iconst (v := 0) hx hb dX9_init_50 (by decide) ?_
  refine lv_istore_n (lv' := [(2, .int 0), (1, .int 0), (0, .ref h0)]) hx hb dX9_init_51 rfl hl (by decide) rfl (fun ls hl => ?_)
  refine W.widen (k := 5) (n := 16031) (Nat.le_of_ble_eq_true rfl) (Nat.le_of_ble_eq_true rfl) ?_
  have lp11 : ∀ (n : Nat) (i : Nat) (k : Nat) (g : Nat → Int64) (H : Heap) (locs : List Loc) (ls : Array Slot), i ≤ 155 → k ≤ i → k = sp i → (∀ j : Nat, g j = kc i j) → 155 < i + n → va_P D vwCl [(h0, .inr (9, [.ref q1, .ref q3, .ref q5, .ref q7, .ref q9, .int 0, .int 0, .int 0, .int 0, .int 0, .int 0, .long 0])), (q1, .inl (k2, 4000, .inl (fun _ => 0))), (q3, .inl (k4, 28, .inr (.inl (g)))), (q5, .inl (k6, 4001, .inl (fun _ => 0))), (q7, .inl (k8, 4001, .inl (fun _ => 0))), (q9, .inl (k10, 4001, .inr (.inl (fun _ => 0))))] H → va_D A [(h0, .inr (9, [.ref q1, .ref q3, .ref q5, .ref q7, .ref q9, .int 0, .int 0, .int 0, .int 0, .int 0, .int 0, .long 0])), (q1, .inl (k2, 4000, .inl (fun _ => 0))), (q3, .inl (k4, 28, .inr (.inl (g)))), (q5, .inl (k6, 4001, .inl (fun _ => 0))), (q7, .inl (k8, 4001, .inl (fun _ => 0))), (q9, .inl (k10, 4001, .inr (.inl (fun _ => 0))))] → va_S A s.heap H locs → lv_has ls 4 [(2, .int (nI i)), (1, .int (nI k)), (0, .ref h0)] → W p l e r_c_Tape_init s m ([.ref h0] : List Value).toArray below meth c H locs (5) (16031) (MQ below (q_c_Tape_init D h0 A) ([.ref h0] : List Value).toArray s 5 16031 A) (F0 m 52 ls []) := by
    intro n
    induction n with
    | zero =>
      intro i k g H locs ls hi hk hsp hg9 hn hP hD hS hl
      exact absurd hn (by omega)
    | succ n ih =>
      intro i k g H locs ls hi hk hsp hg9 hn hP hD hS hl
      refine lv_iload_n hx hb dX9_init_52 rfl (lv_at hl 0 rfl) ?_
      refine va_ldcS hx hb hown hgk.1.2.1 dX9_init_53 ?_
      refine g_int (wr := [(h0, .inr (9, [.ref q1, .ref q3, .ref q5, .ref q7, .ref q9, .int 0, .int 0, .int 0, .int 0, .int 0, .int 0, .long 0])), (q1, .inl (k2, 4000, .inl (fun _ => 0))), (q3, .inl (k4, 28, .inr (.inl (g)))), (q5, .inl (k6, 4001, .inl (fun _ => 0))), (q7, .inl (k8, 4001, .inl (fun _ => 0))), (q9, .inl (k10, 4001, .inr (.inl (fun _ => 0))))]) (tr := [(k2, .byte), (k4, .long), (k6, .int), (k8, .int), (k10, .long)]) (g_runW (As := []) (rest := [.int (nI i)]) (wc := []) (tc := []) (C := RJ0) hx hb hml hown hg gw_self hP hD hK hS hA hnw hgk [] [] (by decide) rfl rfl (c_length l D ks H.size) w197 w198 w199 w158 w200 (vk_recv (i := 0) hgk.1.1 (by decide) hS) hdV_yJ0_length_8abf5 ⟨Nat.le_of_ble_eq_true rfl, Nat.le_of_ble_eq_true rfl⟩ rfl hl.1 rfl (Nat.le_of_ble_eq_true rfl) dX9_init_55 ⟨Nat.le_of_ble_eq_true rfl, Nat.le_of_ble_eq_true rfl⟩) hP hD hK hS hA [] [0, 1, 2, 3, 4, 5] [0, 1, 2, 3, 4] rfl rfl (by decide) (by decide) rfl (fun r14 u13 H locs hw12 hP hD hK hS => ?_)
      have hw12 : r14 = 155 := hw12
      subst hw12
      have hP : va_P D vwCl [(h0, .inr (9, [.ref q1, .ref q3, .ref q5, .ref q7, .ref q9, .int 0, .int 0, .int 0, .int 0, .int 0, .int 0, .long 0])), (q1, .inl (k2, 4000, .inl (fun _ => 0))), (q3, .inl (k4, 28, .inr (.inl (g)))), (q5, .inl (k6, 4001, .inl (fun _ => 0))), (q7, .inl (k8, 4001, .inl (fun _ => 0))), (q9, .inl (k10, 4001, .inr (.inl (fun _ => 0))))] H := hP
      have hD : va_D A [(h0, .inr (9, [.ref q1, .ref q3, .ref q5, .ref q7, .ref q9, .int 0, .int 0, .int 0, .int 0, .int 0, .int 0, .long 0])), (q1, .inl (k2, 4000, .inl (fun _ => 0))), (q3, .inl (k4, 28, .inr (.inl (g)))), (q5, .inl (k6, 4001, .inl (fun _ => 0))), (q7, .inl (k8, 4001, .inl (fun _ => 0))), (q9, .inl (k10, 4001, .inr (.inl (fun _ => 0))))] := hD
      have hK : va_K D vwCl [(k2, .byte), (k4, .long), (k6, .int), (k8, .int), (k10, .long)] s := hK
      refine lv_icmp_ge (tgt := 114) hx hb dX9_init_58 (by decide) (fun c15 => ?_) (fun c15 => ?_)
      · skip
        have gc15 : 155 ≤ i := g_ge_ge (L := 155) (by omega) (by omega) c15
        refine W.widen (k := 5) (n := 16031) (Nat.le_of_ble_eq_true rfl) (Nat.le_of_ble_eq_true rfl) ?_
        have hP9 := hP.sub (ws' := [(h0, .inr (9, [.ref q1, .ref q3, .ref q5, .ref q7, .ref q9, .int 0, .int 0, .int 0, .int 0, .int 0, .int 0, .long 0])), (q1, .inl (k2, 4000, .inl (fun _ => 0))), (q3, .inl (k4, 28, .inr (.inl (g)))), (q5, .inl (k6, 4001, .inl (fun _ => 0))), (q7, .inl (k8, 4001, .inl (fun _ => 0))), (q9, .inl (k10, 4001, .inr (.inl (fun _ => 0))))]) [0, 1, 2, 3, 4, 5] rfl
        have hD9 := hD.sub (ws' := [(h0, .inr (9, [.ref q1, .ref q3, .ref q5, .ref q7, .ref q9, .int 0, .int 0, .int 0, .int 0, .int 0, .int 0, .long 0])), (q1, .inl (k2, 4000, .inl (fun _ => 0))), (q3, .inl (k4, 28, .inr (.inl (g)))), (q5, .inl (k6, 4001, .inl (fun _ => 0))), (q7, .inl (k8, 4001, .inl (fun _ => 0))), (q9, .inl (k10, 4001, .inr (.inl (fun _ => 0))))]) [0, 1, 2, 3, 4, 5] (by decide) rfl
        have hK9 := hK.sub (tys' := [(k2, .byte), (k4, .long), (k6, .int), (k8, .int), (k10, .long)]) [0, 1, 2, 3, 4] rfl
        exact W.vret hx hb hr (fun t ht hW => ⟨⟨(q1, q3, q5, q7, q9, k2, k4, k6, k8, k10, g), rfl, (fun j hj => by have e9 : i = 155 := (by by_cases q : i < 155; have := sp_lt i q; omega; omega); rw [e9] at hg9; exact (hg9 j).trans (kc_kg j hj)), by rw [ht]; exact hP9, va_K.moved hW.alike hK9, hD9⟩, hS.F ht⟩) hS.2.2 dX9_init_114
      · skip
        have gc15 : i < 155 := g_lt_ge (L := 155) (by omega) (by omega) c15
        refine lv_iload_n hx hb dX9_init_61 rfl (lv_at hl 1 rfl) ?_
        refine lv_bipush (v := 28) hx hb dX9_init_62 (by decide) ?_
        refine lv_icmp_ge (tgt := 114) hx hb dX9_init_64 (by decide) (fun c16 => ?_) (fun c16 => ?_)
        · skip
          have gc16 : 28 ≤ k := g_ge_ge (L := 28) (by omega) (by omega) c16
          refine W.widen (k := 5) (n := 16031) (Nat.le_of_ble_eq_true rfl) (Nat.le_of_ble_eq_true rfl) ?_
          have hP9 := hP.sub (ws' := [(h0, .inr (9, [.ref q1, .ref q3, .ref q5, .ref q7, .ref q9, .int 0, .int 0, .int 0, .int 0, .int 0, .int 0, .long 0])), (q1, .inl (k2, 4000, .inl (fun _ => 0))), (q3, .inl (k4, 28, .inr (.inl (g)))), (q5, .inl (k6, 4001, .inl (fun _ => 0))), (q7, .inl (k8, 4001, .inl (fun _ => 0))), (q9, .inl (k10, 4001, .inr (.inl (fun _ => 0))))]) [0, 1, 2, 3, 4, 5] rfl
          have hD9 := hD.sub (ws' := [(h0, .inr (9, [.ref q1, .ref q3, .ref q5, .ref q7, .ref q9, .int 0, .int 0, .int 0, .int 0, .int 0, .int 0, .long 0])), (q1, .inl (k2, 4000, .inl (fun _ => 0))), (q3, .inl (k4, 28, .inr (.inl (g)))), (q5, .inl (k6, 4001, .inl (fun _ => 0))), (q7, .inl (k8, 4001, .inl (fun _ => 0))), (q9, .inl (k10, 4001, .inr (.inl (fun _ => 0))))]) [0, 1, 2, 3, 4, 5] (by decide) rfl
          have hK9 := hK.sub (tys' := [(k2, .byte), (k4, .long), (k6, .int), (k8, .int), (k10, .long)]) [0, 1, 2, 3, 4] rfl
          exact W.vret hx hb hr (fun t ht hW => ⟨⟨(q1, q3, q5, q7, q9, k2, k4, k6, k8, k10, g), rfl, (fun j hj => by have e9 : i = 155 := (by by_cases q : i < 155; have := sp_lt i q; omega; omega); rw [e9] at hg9; exact (hg9 j).trans (kc_kg j hj)), by rw [ht]; exact hP9, va_K.moved hW.alike hK9, hD9⟩, hS.F ht⟩) hS.2.2 dX9_init_114
        · skip
          have gc16 : k < 28 := g_lt_ge (L := 28) (by omega) (by omega) c16
          refine va_ldcS hx hb hown hgk.1.2.1 dX9_init_67 ?_
          refine lv_iload_n hx hb dX9_init_69 rfl (lv_at hl 0 rfl) ?_
          refine g_int (wr := [(h0, .inr (9, [.ref q1, .ref q3, .ref q5, .ref q7, .ref q9, .int 0, .int 0, .int 0, .int 0, .int 0, .int 0, .long 0])), (q1, .inl (k2, 4000, .inl (fun _ => 0))), (q3, .inl (k4, 28, .inr (.inl (g)))), (q5, .inl (k6, 4001, .inl (fun _ => 0))), (q7, .inl (k8, 4001, .inl (fun _ => 0))), (q9, .inl (k10, 4001, .inr (.inl (fun _ => 0))))]) (tr := [(k2, .byte), (k4, .long), (k6, .int), (k8, .int), (k10, .long)]) (g_runW (As := [.int (nI i)]) (rest := []) (wc := []) (tc := []) (C := RJ0) hx hb hml hown hg gw_self hP hD hK hS hA hnw hgk [] [] (by decide) rfl rfl (c_charAt l D ks H.size i (by (first | exact om_97ddfa34d464 gc15 | omega))) w207 w208 w209 w158 w210 (vk_recv (i := 0) hgk.1.1 (by decide) hS) hdV_yJ0_charAt_5068e ⟨Nat.le_of_ble_eq_true rfl, Nat.le_of_ble_eq_true rfl⟩ rfl hl.1 rfl (Nat.le_of_ble_eq_true rfl) dX9_init_70 ⟨Nat.le_of_ble_eq_true rfl, Nat.le_of_ble_eq_true rfl⟩) hP hD hK hS hA [] [0, 1, 2, 3, 4, 5] [0, 1, 2, 3, 4] rfl rfl (by decide) (by decide) rfl (fun r19 u18 H locs hw17 hP hD hK hS => ?_)
          have hw17 : r19 = kwc i := hw17
          subst hw17
          have hP : va_P D vwCl [(h0, .inr (9, [.ref q1, .ref q3, .ref q5, .ref q7, .ref q9, .int 0, .int 0, .int 0, .int 0, .int 0, .int 0, .long 0])), (q1, .inl (k2, 4000, .inl (fun _ => 0))), (q3, .inl (k4, 28, .inr (.inl (g)))), (q5, .inl (k6, 4001, .inl (fun _ => 0))), (q7, .inl (k8, 4001, .inl (fun _ => 0))), (q9, .inl (k10, 4001, .inr (.inl (fun _ => 0))))] H := hP
          have hD : va_D A [(h0, .inr (9, [.ref q1, .ref q3, .ref q5, .ref q7, .ref q9, .int 0, .int 0, .int 0, .int 0, .int 0, .int 0, .long 0])), (q1, .inl (k2, 4000, .inl (fun _ => 0))), (q3, .inl (k4, 28, .inr (.inl (g)))), (q5, .inl (k6, 4001, .inl (fun _ => 0))), (q7, .inl (k8, 4001, .inl (fun _ => 0))), (q9, .inl (k10, 4001, .inr (.inl (fun _ => 0))))] := hD
          have hK : va_K D vwCl [(k2, .byte), (k4, .long), (k6, .int), (k8, .int), (k10, .long)] s := hK
          refine lv_istore_n (lv' := [(3, .int (kwc i)), (2, .int (nI i)), (1, .int (nI k)), (0, .ref h0)]) hx hb dX9_init_73 rfl hl (by decide) rfl (fun ls hl => ?_)
          refine lv_iload_n hx hb dX9_init_74 rfl (lv_at hl 0 rfl) ?_
          refine lv_bipush (v := 32) hx hb dX9_init_75 (by decide) ?_
          refine lv_icmp_ne (tgt := 86) hx hb dX9_init_77 (by decide) (fun c20 => ?_) (fun c20 => ?_)
          · skip
            refine lv_aload_n hx hb dX9_init_86 rfl (lv_at hl 3 rfl) ?_
            refine va_get (D := D) (ci := 9) (v := .ref q3) (C := RX9) (T := TX9) (N := 12) hx hb hg inX9 hown hK hP 0 rfl rfl 1 (by decide) (hg _ w253) (fun _ h9 => h9) rfl dX9_init_87 ?_
            refine lv_iload_n hx hb dX9_init_90 rfl (lv_at hl 2 rfl) ?_
            refine lv_aload_n hx hb dX9_init_91 rfl (lv_at hl 3 rfl) ?_
            refine va_get (D := D) (ci := 9) (v := .ref q3) (C := RX9) (T := TX9) (N := 12) hx hb hg inX9 hown hK hP 0 rfl rfl 1 (by decide) (hg _ w253) (fun _ h9 => h9) rfl dX9_init_92 ?_
            refine lv_iload_n hx hb dX9_init_95 rfl (lv_at hl 2 rfl) ?_
            refine va_lald (D := D) (i := (nI k)) hx hb hK hP 2 1 rfl rfl (vp_in_nI (by omega) (by omega)) dX9_init_96 ?_
            refine lv_ldc2 (v := 37) hx hb hown (hg _ w245) dX9_init_97 ?_
            refine lv_lmul hx hb dX9_init_100 ?_
            refine lv_iload_n hx hb dX9_init_101 rfl (lv_at hl 0 rfl) ?_
            refine g_int (wr := [(h0, .inr (9, [.ref q1, .ref q3, .ref q5, .ref q7, .ref q9, .int 0, .int 0, .int 0, .int 0, .int 0, .int 0, .long 0])), (q1, .inl (k2, 4000, .inl (fun _ => 0))), (q3, .inl (k4, 28, .inr (.inl (g)))), (q5, .inl (k6, 4001, .inl (fun _ => 0))), (q7, .inl (k8, 4001, .inl (fun _ => 0))), (q9, .inl (k10, 4001, .inr (.inl (fun _ => 0))))]) (tr := [(k2, .byte), (k4, .long), (k6, .int), (k8, .int), (k10, .long)]) (g_runS (As := [.int (kwc i)]) (rest := [.long (((g) (Int32.toNatClampNeg (nI k))) * 37), .int (nI k), .ref q3]) (wc := []) (tc := []) hx hb hml hown hg gw_self hP hD hK hS hA hnw hgk [] [] (by decide) rfl rfl (c_codeOfK l D ks H.size i (by (first | exact om_97ddfa34d464 gc15 | omega)) c20) w246 w247 w157 w248 hdS_yX9_codeOf ⟨Nat.le_of_ble_eq_true rfl, Nat.le_of_ble_eq_true rfl⟩ rfl hl.1 rfl (Nat.le_of_ble_eq_true rfl) dX9_init_102 ⟨Nat.le_of_ble_eq_true rfl, Nat.le_of_ble_eq_true rfl⟩) hP hD hK hS hA [] [0, 1, 2, 3, 4, 5] [0, 1, 2, 3, 4] rfl rfl (by decide) (by decide) rfl (fun r23 u22 H locs hw21 hP hD hK hS => ?_)
            have hw21 : r23 = kwc i - 97 + 1 := hw21
            subst hw21
            have hP : va_P D vwCl [(h0, .inr (9, [.ref q1, .ref q3, .ref q5, .ref q7, .ref q9, .int 0, .int 0, .int 0, .int 0, .int 0, .int 0, .long 0])), (q1, .inl (k2, 4000, .inl (fun _ => 0))), (q3, .inl (k4, 28, .inr (.inl (g)))), (q5, .inl (k6, 4001, .inl (fun _ => 0))), (q7, .inl (k8, 4001, .inl (fun _ => 0))), (q9, .inl (k10, 4001, .inr (.inl (fun _ => 0))))] H := hP
            have hD : va_D A [(h0, .inr (9, [.ref q1, .ref q3, .ref q5, .ref q7, .ref q9, .int 0, .int 0, .int 0, .int 0, .int 0, .int 0, .long 0])), (q1, .inl (k2, 4000, .inl (fun _ => 0))), (q3, .inl (k4, 28, .inr (.inl (g)))), (q5, .inl (k6, 4001, .inl (fun _ => 0))), (q7, .inl (k8, 4001, .inl (fun _ => 0))), (q9, .inl (k10, 4001, .inr (.inl (fun _ => 0))))] := hD
            have hK : va_K D vwCl [(k2, .byte), (k4, .long), (k6, .int), (k8, .int), (k10, .long)] s := hK
            refine lv_i2l hx hb dX9_init_105 rfl ?_
            refine lv_ladd hx hb dX9_init_106 ?_
            refine va_last (D := D) (i := (nI k)) (x := ((((g) (Int32.toNatClampNeg (nI k))) * 37) + ((kwc i - 97 + 1)).toInt64)) hx hb hK hP hD hS 2 1 rfl rfl (vp_in_nI (by omega) (by omega)) dX9_init_107 (fun H locs hP hD hS => ?_)
            have hP : va_P D vwCl [(h0, .inr (9, [.ref q1, .ref q3, .ref q5, .ref q7, .ref q9, .int 0, .int 0, .int 0, .int 0, .int 0, .int 0, .long 0])), (q1, .inl (k2, 4000, .inl (fun _ => 0))), (q3, .inl (k4, 28, .inr (.inl (vp_updL g (Int32.toNatClampNeg (nI k)) ((((g) (Int32.toNatClampNeg (nI k))) * 37) + ((kwc i - 97 + 1)).toInt64))))), (q5, .inl (k6, 4001, .inl (fun _ => 0))), (q7, .inl (k8, 4001, .inl (fun _ => 0))), (q9, .inl (k10, 4001, .inr (.inl (fun _ => 0))))] H := hP
            have hD : va_D A [(h0, .inr (9, [.ref q1, .ref q3, .ref q5, .ref q7, .ref q9, .int 0, .int 0, .int 0, .int 0, .int 0, .int 0, .long 0])), (q1, .inl (k2, 4000, .inl (fun _ => 0))), (q3, .inl (k4, 28, .inr (.inl (vp_updL g (Int32.toNatClampNeg (nI k)) ((((g) (Int32.toNatClampNeg (nI k))) * 37) + ((kwc i - 97 + 1)).toInt64))))), (q5, .inl (k6, 4001, .inl (fun _ => 0))), (q7, .inl (k8, 4001, .inl (fun _ => 0))), (q9, .inl (k10, 4001, .inr (.inl (fun _ => 0))))] := hD
            obtain ⟨f24, hf24⟩ : ∃ z, z = vp_updL g (Int32.toNatClampNeg (nI k)) ((((g) (Int32.toNatClampNeg (nI k))) * 37) + ((kwc i - 97 + 1)).toInt64) := ⟨_, rfl⟩
            rw [← hf24] at hP hD
            refine lv_iinc (v := (nI (i + 1))) (lv' := [(2, .int (nI (i + 1))), (3, .int (kwc i)), (1, .int (nI k)), (0, .ref h0)]) hx hb dX9_init_108 hl (k := 1) rfl (nI_1 _) (by decide) rfl (fun ls hl => ?_)
            refine lv_goto (tgt := 52) hx hb dX9_init_111 (by decide) ?_
            exact ih (i + 1) k f24 H locs ls (by omega) (by omega) (by rw [hsp, sp, if_neg c20]; rfl) (by intro j; rw [hf24, nI_clamp (by omega), kc_n c20]; exact kc_up hsp hg9 j) (by omega) (hP.sub [0, 1, 2, 3, 4, 5] rfl) (hD.sub [0, 1, 2, 3, 4, 5] (by decide) rfl) hS (lv_sub hl [0, 2, 3] rfl)
          · skip
            refine lv_iinc (v := (nI (k + 1))) (lv' := [(1, .int (nI (k + 1))), (3, .int (kwc i)), (2, .int (nI i)), (0, .ref h0)]) hx hb dX9_init_80 hl (k := 2) rfl (nI_1 _) (by decide) rfl (fun ls hl => ?_)
            refine lv_goto (tgt := 108) hx hb dX9_init_83 (by decide) ?_
            refine lv_iinc (v := (nI (i + 1))) (lv' := [(2, .int (nI (i + 1))), (1, .int (nI (k + 1))), (3, .int (kwc i)), (0, .ref h0)]) hx hb dX9_init_108 hl (k := 2) rfl (nI_1 _) (by decide) rfl (fun ls hl => ?_)
            refine lv_goto (tgt := 52) hx hb dX9_init_111 (by decide) ?_
            exact ih (i + 1) (k + 1) g H locs ls (by omega) (by omega) (by rw [hsp, sp, if_pos c20]) (by intro j; rw [kc_p c20]; exact hg9 j) (by omega) (hP.sub [0, 1, 2, 3, 4, 5] rfl) (hD.sub [0, 1, 2, 3, 4, 5] (by decide) rfl) hS (lv_sub hl [0, 1, 3] rfl)
  exact lp11 156 0 0 _ H locs ls (by omega) (by omega) rfl (fun _ => rfl) (by omega) hP hD hS hl
