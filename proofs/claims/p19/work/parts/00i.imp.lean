theorem imp_a {x : Int} (a : 0 ≤ x) (b : x ≤ 1) (c : x ≠ 0) : x = 1 := by omega
theorem imp_b {x : Int} (a : 0 ≤ x) (b : x ≤ 1) (c : x ≠ 1) : x = 0 := by omega
theorem imp_c {x : Int} (a : 0 ≤ x) (c : x ≠ 0) : 1 ≤ x := by omega
theorem imp_d {x y : Int} {k : Int} (e : x = y) (h : k ≤ y) : k ≤ x := by omega
theorem imp_e {x : Int} (e : x = 1) : 1 ≤ x := by omega
theorem imp_f {x : Int} (e : 1 ≤ x) (b : x ≤ 1) : x = 1 := by omega
