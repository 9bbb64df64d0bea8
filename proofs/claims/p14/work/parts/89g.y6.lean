theorem om_03493e728911 {v1 v2 v3 v4 v5 : Int} {v0 v6 v7 : Nat} (h0 : (((v0 : Nat) : Int) : Int) = v1) (h1 : (v2 : Int) = v3) (h2 : (v4 : Int) = (24 * v3)) (h3 : (v5 : Int) = (v4 + v1)) (h4 : (((v6 : Nat) : Int) : Int) = v2) (h5 : (((v7 : Nat) : Int) : Int) = v5) : (v7 : Nat) = ((24 * v6) + v0) := by omega
theorem om_03b755d7679e {v0 : Int} (h0 : (v0 : Int) ≤ 4000) (h1 : ((4000 - v0) : Int) < ((0 : Nat) : Int)) : False := by omega
theorem om_0497f55c2193 {v1 : Int} {v0 v2 : Nat} (h0 : ((((v0 : Nat) : Int) + 1) : Int) = v1) (h1 : (v1 : Int) = (((v2 + 1) : Nat) : Int)) : ((Int.toNat v1) : Nat) = (v2 + 1) := by omega
theorem om_056f4b864e7b {v0 : Int} (h0 : (v0 : Int) ≤ 300) (h1 : ((300 - v0) : Int) < ((0 : Nat) : Int)) : False := by omega
theorem om_061ff4870277 {v0 v1 v2 : Int} {v3 v4 : Nat} (h0 : (0 : Int) ≤ v0) (h1 : (v1 : Int) = (v0 + v2)) (h2 : (((v3 : Nat) : Int) : Int) = v2) (h3 : (((v4 : Nat) : Int) : Int) = v1) : (v4 : Nat) = ((Int.toNat v0) + v3) := by omega
theorem om_07161d737d40 {v0 v1 v2 : Int} (h0 : (60900 : Int) ≤ v0) (h1 : (v0 : Int) ≤ 250000) (h2 : (v1 : Int) = v0) (h3 : (v2 : Int) = v1) : (((60900 : Int) ≤ v2) ∧ ((v2 : Int) ≤ 250000)) := by omega
theorem om_097cb6b97080 {v0 v1 v2 v3 v4 v5 v6 v7 : Int} (h0 : (0 : Int) ≤ v0) (h1 : (v1 : Int) = v0) (h2 : (v2 : Int) = (v1 + 1)) (h3 : (0 : Int) ≤ v3) (h4 : (v2 : Int) ≤ v4) (h5 : (v5 : Int) = v4) (h6 : (v6 : Int) = (v7 + v5)) (h7 : (v7 : Int) = v3) : (0 : Int) ≤ v6 := by omega
theorem om_0b82267ac791 {v0 v1 v2 : Int} (h0 : (v0 : Int) ≤ 12) (h1 : (v0 : Int) ≠ 12) (h2 : (0 : Int) ≤ v1) (h3 : (v1 : Int) ≤ v2) (h4 : (v2 : Int) < v0) : ((((-2147483648) : Int) ≤ (v1 + 1)) ∧ (((v1 + 1) : Int) ≤ 2147483647)) := by omega
theorem om_0b93f57c7e11 {v0 v1 v2 v3 : Int} (h0 : (v0 : Int) ≤ 1) (h1 : (v1 : Int) = (24 * v0)) (h2 : (v2 : Int) ≤ 24) (h3 : (v3 : Int) = (v1 + v2)) (h4 : (v2 : Int) ≠ 24) : (v3 : Int) < 48 := by omega
theorem om_0d50ee23e4c9 {v0 v1 : Int} (h0 : (0 : Int) ≤ v0) (h1 : (v0 : Int) ≤ 1) (h2 : (v0 : Int) ≠ 0) (h3 : (v1 : Int) = v0) : (v1 : Int) = 1 := by omega
theorem om_0e6295a3fd06 {v0 v1 v2 v3 v4 : Int} (h0 : (0 : Int) ≤ v0) (h1 : (v0 : Int) ≠ 0) (h2 : (v1 : Int) = v0) (h3 : (v2 : Int) = v1) (h4 : (v3 : Int) = v2) (h5 : (v4 : Int) = v3) : (1 : Int) ≤ v4 := by omega
theorem om_104c3f3c20c5 {v0 v1 v2 v3 : Int} (h0 : (v0 : Int) < v1) (h1 : (v2 : Int) = (v1 - 1)) (h2 : (v3 : Int) = v2) : (v0 : Int) ≤ v3 := by omega
theorem om_10cc180fa1f4 {v0 : Int} : ((12 - v0) : Int) < (((Int.toNat ((12 - v0) + 1)) : Nat) : Int) := by omega
theorem om_131669a8555c {v0 v1 : Int} (h0 : (0 : Int) ≤ v0) (h1 : (v0 : Int) ≤ 8) (h2 : (v1 : Int) = (v0 - 1)) : ((((-1) : Int) ≤ v1) ∧ ((v1 : Int) ≤ 999999999)) := by omega
theorem om_133a013d0314 {v1 v2 v3 v4 : Int} {v0 v5 v6 : Nat} (h0 : (((v0 : Nat) : Int) : Int) = v1) (h1 : (v2 : Int) = (12 * v1)) (h2 : (v3 : Int) = (v2 + v4)) (h3 : (((v5 : Nat) : Int) : Int) = v3) (h4 : (((v6 : Nat) : Int) : Int) = v4) : (v5 : Nat) = ((12 * v0) + v6) := by omega
theorem om_13e3f9559dcb {v0 : Int} (h0 : (v0 : Int) ≤ 1000000) (h1 : ((1000000 - v0) : Int) < ((0 : Nat) : Int)) : False := by omega
theorem om_16fae00e8c6a {v0 : Int} (h0 : (v0 : Int) = 1) : (((0 : Int) ≤ v0) ∧ ((v0 : Int) ≤ 3)) := by omega
theorem om_17124963473a {v0 v1 v2 : Int} (h0 : (v0 : Int) ≤ 8000) (h1 : (v0 : Int) = v1) (h2 : (v2 : Int) = v1) : (v2 : Int) ≤ 8000 := by omega
theorem om_1aaccb668214 {v1 v2 v4 v5 v6 v7 v8 : Int} {v0 v3 v9 v10 : Nat} (h0 : (((v0 : Nat) : Int) : Int) = v1) (h1 : (v2 : Int) = ((v3 : Nat) : Int)) (h2 : (v4 : Int) = (24 * v1)) (h3 : (v5 : Int) = (v4 + v2)) (h4 : (v6 : Int) = (8 * v5)) (h5 : (v7 : Int) = (v6 + v8)) (h6 : (((v9 : Nat) : Int) : Int) = v8) (h7 : (((v10 : Nat) : Int) : Int) = v7) : (v10 : Nat) = ((8 * ((24 * v0) + v3)) + v9) := by omega
theorem om_1b007844e976 {v0 v1 : Int} (h0 : (v0 : Int) = 4) (h1 : (v1 : Int) = 20) : ((v1 + v0) : Int) ≤ 28 := by omega
theorem om_1c4c22b14622 {v0 : Int} (h0 : (v0 : Int) = 9) : (v0 : Int) ≠ 1 := by omega
theorem om_1fdfe16a6bb5 {v0 v1 : Int} (h0 : (v0 : Int) ≤ 20) (h1 : (v1 : Int) < v0) (h2 : (0 : Int) ≤ v1) : ((Int.toNat v1) : Nat) < 20 := by omega
theorem om_21e89d3d06d7 {v0 : Int} (h0 : (0 : Int) ≤ v0) (h1 : (v0 : Int) < ((0 : Nat) : Int)) : False := by omega
theorem om_24f658063d4f {v1 v3 v4 v5 v6 : Int} {v0 v2 v7 : Nat} (h0 : (((v0 : Nat) : Int) : Int) = v1) (h1 : (((v2 : Nat) : Int) : Int) = v3) (h2 : (v4 : Int) = (8 * v1)) (h3 : (v5 : Int) = (v4 + v3)) (h4 : (v6 : Int) = (24 * v5)) (h5 : (((v7 : Nat) : Int) : Int) = v6) : (v7 : Nat) = ((24 * ((8 * v0) + v2)) + 0) := by omega
theorem om_2733943334af {v0 : Int} : ((960 - v0) : Int) < (((Int.toNat ((960 - v0) + 1)) : Nat) : Int) := by omega
theorem om_29432ba3926b {v0 : Int} (h0 : (v0 : Int) = 2) : (v0 : Int) ≠ 1 := by omega
theorem om_2a6e38b3f3ed {v0 v1 v2 v3 : Int} (h0 : (v0 : Int) = v1) (h1 : (v1 : Int) = v2) (h2 : (v3 : Int) = (v0 + 1)) : (v2 : Int) ≤ v3 := by omega
theorem om_2a883f1e0944 {v1 v3 v4 v5 : Int} {v0 v2 v6 : Nat} (h0 : (((v0 : Nat) : Int) : Int) = v1) (h1 : (((v2 : Nat) : Int) : Int) = v3) (h2 : (v4 : Int) = (8 * v1)) (h3 : (v5 : Int) = (v4 + v3)) (h4 : (((v6 : Nat) : Int) : Int) = v5) : (v6 : Nat) = ((8 * v0) + v2) := by omega
theorem om_2b97926ac273 {v0 : Int} : ((Int.toNat v0) : Nat) ≤ (Int.toNat v0) := by omega
theorem om_2ce6b7e4456b {v0 v2 v3 v4 : Int} {v1 v5 v6 : Nat} (h0 : (0 : Int) ≤ v0) (h1 : ((Int.toNat v0) : Nat) = v1) (h2 : (v2 : Int) = (24 * v0)) (h3 : (v3 : Int) = (v2 + v4)) (h4 : (((v5 : Nat) : Int) : Int) = v4) (h5 : (((v6 : Nat) : Int) : Int) = v3) : (v6 : Nat) = ((24 * v1) + v5) := by omega
theorem om_2f20d14b94bf {v0 : Int} (h0 : (v0 : Int) = 99) : ((((-1) : Int) ≤ v0) ∧ ((v0 : Int) ≤ 999999999)) := by omega
theorem om_2f55e767c825 : (9 : Int) < (((Int.toNat (9 + 1)) : Nat) : Int) := by omega
theorem om_311f27cabdb0 {v0 v1 v2 v3 : Int} (h0 : (0 : Int) ≤ v0) (h1 : (v0 : Int) ≠ 0) (h2 : (v1 : Int) = v0) (h3 : (v2 : Int) = v1) (h4 : (v3 : Int) = v2) : (1 : Int) ≤ v3 := by omega
theorem om_315b81f799cb {v0 : Int} : ((7 - v0) : Int) < (((Int.toNat ((7 - v0) + 1)) : Nat) : Int) := by omega
theorem om_34d366f2e820 {v0 : Nat} (h0 : (((v0 : Nat) : Int) : Int) ≤ 7) : ¬ ((8 : Nat) ≤ v0) := by omega
theorem om_351ff2853172 {v0 : Int} (h0 : (v0 : Int) ≤ 340) (h1 : ((340 - v0) : Int) < ((0 : Nat) : Int)) : False := by omega
theorem om_364af141ba0c {v0 : Int} (h0 : (v0 : Int) = 10) : (v0 : Int) = 10 := by omega
theorem om_36bf429b4636 {v0 v1 v2 v3 v4 v5 v6 : Int} (h0 : (v0 : Int) ≤ (8051 - (6 * v1))) (h1 : (v2 : Int) = v1) (h2 : (0 : Int) ≤ v2) (h3 : (v3 : Int) = v0) (h4 : (v4 : Int) = (v3 + 1)) (h5 : (v5 : Int) = v4) (h6 : (v6 : Int) = v5) : (v6 : Int) ≤ 9999 := by omega
theorem om_36d4c83bf4b2 {v0 : Int} {v1 v2 v3 v4 : Nat} (h0 : (v0 : Int) = ((((8 * ((24 * v1) + v2)) + v3) : Nat) : Int)) (h1 : (((v4 : Nat) : Int) : Int) = v0) : (v4 : Nat) = ((8 * ((24 * v1) + v2)) + v3) := by omega
theorem om_37d99c122198 {v0 : Int} : ((100 - v0) : Int) < (((Int.toNat ((100 - v0) + 1)) : Nat) : Int) := by omega
theorem om_38ac640f4f8c {v0 : Int} : ((300 - v0) : Int) < (((Int.toNat ((300 - v0) + 1)) : Nat) : Int) := by omega
theorem om_391add0f30a2 {v0 : Int} (h0 : (v0 : Int) = 0) : (v0 : Int) ≠ 2 := by omega
theorem om_3aed94266775 {v0 v1 v2 v3 v4 v5 : Int} (h0 : (0 : Int) ≤ v0) (h1 : (v0 : Int) ≤ 1) (h2 : (v1 : Int) = (24 * v0)) (h3 : (0 : Int) ≤ v2) (h4 : (v2 : Int) ≤ 24) (h5 : (v3 : Int) = (v1 + v2)) (h6 : (v2 : Int) ≠ 24) (h7 : (0 : Int) ≤ v4) (h8 : (v4 : Int) < 20) (h9 : (v5 : Int) = (20 * v3)) : ((((-2147483648) : Int) ≤ (v5 + v4)) ∧ (((v5 + v4) : Int) ≤ 2147483647)) := by omega
theorem om_3b297d515ebe {v0 : Int} : ((v0 + 1) : Int) < (((Int.toNat ((v0 + 1) + 1)) : Nat) : Int) := by omega
theorem om_3b52b5c92499 {v0 : Int} : ((340 - v0) : Int) < (((Int.toNat ((340 - v0) + 1)) : Nat) : Int) := by omega
theorem om_3b68f00bdb71 {v0 : Int} {v1 : Nat} (h0 : (v0 : Int) < (((v1 + 1) : Nat) : Int)) : ((v0 - 1) : Int) < ((v1 : Nat) : Int) := by omega
theorem om_3c2fae5963d6 {v0 v1 v2 v3 v4 v5 v6 v7 v8 v9 v10 : Int} (h0 : (v0 : Int) = v1) (h1 : (v0 : Int) ≤ v2) (h2 : (v3 : Int) = v2) (h3 : (v4 : Int) = (v3 + 1)) (h4 : (v4 : Int) ≤ v5) (h5 : (v6 : Int) = v5) (h6 : (v7 : Int) = (v6 + 1)) (h7 : (v8 : Int) = v7) (h8 : (v8 : Int) ≤ v9) (h9 : (v10 : Int) = v9) : (v1 : Int) ≤ v10 := by omega
theorem om_3d243e19f9d1 {v0 : Int} (h0 : (v0 : Int) = 11) : (v0 : Int) ≠ 10 := by omega
theorem om_4052a1005a1f {v0 v1 v2 : Int} (h0 : (v0 : Int) = v1) (h1 : (v2 : Int) = v0) : (v1 : Int) ≤ v2 := by omega
theorem om_408a787f8f0f {v0 : Int} (h0 : (v0 : Int) = 9) : (((5 : Int) ≤ v0) ∧ ((v0 : Int) ≤ 9)) := by omega
theorem om_40a015f558ac {v1 v3 v4 v5 : Int} {v0 v2 v6 : Nat} (h0 : (((v0 : Nat) : Int) : Int) = v1) (h1 : (((v2 : Nat) : Int) : Int) = v3) (h2 : (v4 : Int) = (24 * v3)) (h3 : (v5 : Int) = (v4 + v1)) (h4 : (((v6 : Nat) : Int) : Int) = v5) : (v6 : Nat) = ((24 * v2) + v0) := by omega
theorem om_431465f4c13a {v0 v1 v2 v3 : Int} (h0 : (0 : Int) ≤ v0) (h1 : (v0 : Int) ≤ 1) (h2 : (v1 : Int) ≤ 12) (h3 : (v1 : Int) ≠ 12) (h4 : (0 : Int) ≤ v2) (h5 : (v2 : Int) < v1) (h6 : (v3 : Int) = (12 * v0)) : ((((-2147483648) : Int) ≤ (v3 + v2)) ∧ (((v3 + v2) : Int) ≤ 2147483647)) := by omega
theorem om_4397a89d4dfa {v0 v1 v3 : Int} {v2 v4 v5 : Nat} (h0 : (v0 : Int) = (v1 + 1)) (h1 : ((Int.toNat v1) : Nat) = v2) (h2 : (v3 : Int) ≤ v0) (h3 : (v4 : Nat) = (v2 + 2)) (h4 : (v4 : Nat) ≤ v5) (h5 : (v3 : Int) = ((v5 : Nat) : Int)) : False := by omega
theorem om_44ec4d156a09 {v0 : Int} (h0 : (v0 : Int) = 7) : (v0 : Int) ≠ 1 := by omega
theorem om_461d7471bbe5 {v0 v1 v2 v3 : Int} (h0 : (v0 : Int) = v1) (h1 : (v2 : Int) = v0) (h2 : (v3 : Int) = v2) : (v1 : Int) ≤ v3 := by omega
theorem om_4634b1278845 {v0 v1 : Int} (h0 : (v0 : Int) ≤ v1) (h1 : ((v1 - v0) : Int) < ((0 : Nat) : Int)) : False := by omega
theorem om_46fca4eb238f {v1 v3 v4 v5 : Int} {v0 v2 v6 : Nat} (h0 : (((v0 : Nat) : Int) : Int) = v1) (h1 : (((v2 : Nat) : Int) : Int) = v3) (h2 : (v4 : Int) = (12 * v3)) (h3 : (v5 : Int) = (v4 + v1)) (h4 : (((v6 : Nat) : Int) : Int) = v5) : (v6 : Nat) = ((12 * v2) + v0) := by omega
theorem om_47efcdb6a64f {v0 v2 v3 v4 : Int} {v1 : Nat} (h0 : (v0 : Int) = ((v1 : Nat) : Int)) (h1 : (v2 : Int) = v0) (h2 : (v3 : Int) = v2) (h3 : (v4 : Int) = v3) : (v4 : Int) = ((v1 : Nat) : Int) := by omega
theorem om_4907c19ad41a {v0 v1 v2 : Int} (h0 : (v0 : Int) ≤ 12) (h1 : (v0 : Int) ≠ 12) (h2 : (0 : Int) ≤ v1) (h3 : (v1 : Int) < v0) (h4 : (v2 : Int) = (v1 + 1)) : (((0 : Int) ≤ v2) ∧ ((v2 : Int) ≤ 12)) := by omega
theorem om_4b52247ddc06 {v0 : Int} : ((40 - v0) : Int) < (((Int.toNat ((40 - v0) + 1)) : Nat) : Int) := by omega
theorem om_4c29053cab98 {v1 v3 v4 v5 : Int} {v0 v2 v6 : Nat} (h0 : (((v0 : Nat) : Int) : Int) = v1) (h1 : (((v2 : Nat) : Int) : Int) = v3) (h2 : (v4 : Int) = (24 * v1)) (h3 : (v5 : Int) = (v4 + v3)) (h4 : (((v6 : Nat) : Int) : Int) = v5) : (v6 : Nat) = ((24 * v0) + v2) := by omega
theorem om_4cb8b2a529e7 {v0 v1 v3 v4 : Int} {v2 : Nat} (h0 : (v0 : Int) = (v1 + 1)) (h1 : (((v2 : Nat) : Int) : Int) = v1) (h2 : (v3 : Int) = v0) (h3 : (v3 : Int) ≤ v4) : (((v2 : Nat) : Int) : Int) < v4 := by omega
theorem om_4cc8af65a62d {v0 : Int} : ((1000000 - v0) : Int) < (((Int.toNat ((1000000 - v0) + 1)) : Nat) : Int) := by omega
theorem om_4e8c3b362f2a {v0 v1 v2 v3 v4 : Int} (h0 : (v0 : Int) = v1) (h1 : (v2 : Int) = v1) (h2 : (v3 : Int) < v0) (h3 : (v4 : Int) = (v3 + 1)) : (v4 : Int) ≤ v2 := by omega
theorem om_50a84ca3fa82 {v0 v1 v2 v3 v7 v8 : Int} {v4 v5 v6 v9 : Nat} (h0 : (v0 : Int) = (v1 * 8)) (h1 : (v2 : Int) = (v0 + v3)) (h2 : (((v4 : Nat) : Int) : Int) = v2) (h3 : (v4 : Nat) = ((8 * v5) + v6)) (h4 : (v7 : Int) = (v1 * 8)) (h5 : (v8 : Int) = (v7 + v3)) (h6 : (((v9 : Nat) : Int) : Int) = v8) : (v9 : Nat) = ((8 * v5) + v6) := by omega
theorem om_513b2bd4b43e {v0 v1 v2 v3 : Int} {v4 v5 v6 : Nat} (h0 : (v0 : Int) = (24 * v1)) (h1 : (v2 : Int) = (v0 + v3)) (h2 : (((v4 : Nat) : Int) : Int) = v1) (h3 : (((v5 : Nat) : Int) : Int) = v3) (h4 : (((v6 : Nat) : Int) : Int) = v2) : (v6 : Nat) = ((24 * v4) + v5) := by omega
theorem om_51505a31e2c1 {v0 v2 v3 v4 v5 v6 : Int} {v1 : Nat} (h0 : ((v0 + ((v1 : Nat) : Int)) : Int) = 8) (h1 : (v2 : Int) = v0) (h2 : (v3 : Int) = v2) (h3 : (v4 : Int) = v3) (h4 : (v5 : Int) = v4) (h5 : (v6 : Int) = v5) : ((v6 + ((v1 : Nat) : Int)) : Int) = 8 := by omega
theorem om_51e68dbca158 {v0 v1 v2 v3 v4 v5 v6 v7 v8 v9 v10 : Int} (h0 : (v0 : Int) = v1) (h1 : (v1 : Int) = v2) (h2 : (v3 : Int) = v0) (h3 : (v4 : Int) = (v3 + 1)) (h4 : (v5 : Int) = v4) (h5 : (v6 : Int) = v5) (h6 : (v7 : Int) = (v6 + 1)) (h7 : (v8 : Int) = v9) (h8 : (v9 : Int) = v7) (h9 : (v10 : Int) = v8) : (v2 : Int) ≤ v10 := by omega
theorem om_53eba9d5f07d {v1 v2 : Int} {v0 v3 : Nat} (h0 : (((v0 : Nat) : Int) : Int) = v1) (h1 : (v2 : Int) = (v1 + 1)) (h2 : (((v0 : Nat) : Int) : Int) = v1) (h3 : (((v3 : Nat) : Int) : Int) = v2) : (v3 : Nat) = (v0 + 1) := by omega
theorem om_541a228d28bf {v1 v2 v3 v4 : Int} {v0 : Nat} (h0 : ((((v0 : Nat) : Int) + 1) : Int) = v1) (h1 : (v2 : Int) = v1) (h2 : (v3 : Int) = (v2 - 1)) (h3 : (v4 : Int) = (v2 - 1)) (h4 : (v3 : Int) = v4) : (v3 : Int) = ((v0 : Nat) : Int) := by omega
theorem om_56471a8a6542 {v0 v1 v2 v3 : Int} {v4 v5 : Nat} (h0 : (0 : Int) ≤ v0) (h1 : (v1 : Int) = (24 * v2)) (h2 : (v3 : Int) = (v1 + v0)) (h3 : (((v4 : Nat) : Int) : Int) = v2) (h4 : (((v5 : Nat) : Int) : Int) = v3) : (v5 : Nat) = ((24 * v4) + (Int.toNat v0)) := by omega
theorem om_56c79def76de {v0 v2 : Int} {v1 : Nat} (h0 : ((24 - v0) : Int) < (((v1 + 1) : Nat) : Int)) (h1 : (v2 : Int) = (v0 + 1)) : ((24 - v2) : Int) < ((v1 : Nat) : Int) := by omega
theorem om_573c9c1cb85a {v0 v1 v2 : Nat} (h0 : (v0 : Nat) = ((8 * v1) + v2)) : (v0 : Nat) = ((8 * v1) + v2) := by omega
theorem om_59466d5d1481 {v0 : Int} (h0 : (1 : Int) ≤ v0) (h1 : (v0 : Int) ≤ 16777215) : ((Int.toNat v0) : Nat) < 16777216 := by omega
theorem om_5962e1deff78 {v0 v1 v2 v3 : Int} (h0 : (v0 : Int) ≤ 1) (h1 : (v1 : Int) = (12 * v0)) (h2 : (v2 : Int) ≤ 12) (h3 : (v3 : Int) = (v1 + v2)) (h4 : (v2 : Int) ≠ 12) : (v3 : Int) < 24 := by omega
theorem om_5b873c706327 {v1 v3 v4 v5 : Int} {v0 v2 v6 : Nat} (h0 : (((v0 : Nat) : Int) : Int) = v1) (h1 : (((v2 : Nat) : Int) : Int) = v3) (h2 : (v4 : Int) = (8 * v1)) (h3 : (v5 : Int) = (v4 + v3)) (h4 : (((v2 : Nat) : Int) : Int) = v3) (h5 : (((v6 : Nat) : Int) : Int) = v5) : (v6 : Nat) = ((8 * v0) + v2) := by omega
theorem om_5c930946990c {v0 v1 : Int} (h0 : (v0 : Int) = 0) (h1 : (v1 : Int) = 1) : (v0 : Int) ≤ v1 := by omega
theorem om_5d9ced273fe6 {v0 v1 : Int} {v2 v3 : Nat} (h0 : (v0 : Int) = (v1 + 1)) (h1 : (((v2 : Nat) : Int) : Int) = v1) (h2 : (((v3 : Nat) : Int) : Int) = v0) : (v3 : Nat) = (v2 + 1) := by omega
theorem om_5f58aa193e98 {v0 : Int} (h0 : (v0 : Int) = 6) : (((5 : Int) ≤ v0) ∧ ((v0 : Int) ≤ 9)) := by omega
theorem om_6020e1579ecd {v1 v2 v4 v5 : Int} {v0 v3 v6 : Nat} (h0 : (((v0 : Nat) : Int) : Int) = v1) (h1 : (v2 : Int) = ((v3 : Nat) : Int)) (h2 : (v4 : Int) = (24 * v1)) (h3 : (v5 : Int) = (v4 + v2)) (h4 : (((v6 : Nat) : Int) : Int) = v5) : (v6 : Nat) = ((24 * v0) + v3) := by omega
theorem om_60d665989fb6 {v1 : Int} {v0 : Nat} (h0 : ((((v0 : Nat) : Int) + v1) : Int) ≤ 23) (h1 : ((24 - v1) : Int) < ((0 : Nat) : Int)) : False := by omega
theorem om_6184556ab50c {v0 v1 v2 v3 v4 v5 v6 v7 v8 : Int} (h0 : (0 : Int) ≤ v0) (h1 : (v1 : Int) = v0) (h2 : (v2 : Int) = (v1 + 1)) (h3 : (0 : Int) ≤ v3) (h4 : (v3 : Int) ≤ 10000) (h5 : (v4 : Int) = v2) (h6 : (v5 : Int) = v4) (h7 : (v6 : Int) = (v5 + 1)) (h8 : (v6 : Int) ≤ 10000) (h9 : (v7 : Int) = v8) (h10 : (v8 : Int) = v6) : ((((-2147483648) : Int) ≤ (v3 + v7)) ∧ (((v3 + v7) : Int) ≤ 2147483647)) := by omega
theorem om_626e07862489 {v0 : Int} (h0 : (v0 : Int) ≤ 20) (h1 : ((20 - v0) : Int) < ((0 : Nat) : Int)) : False := by omega
theorem om_63075622969b {v0 : Int} (h0 : (v0 : Int) = 5) : (v0 : Int) ≠ 1 := by omega
theorem om_63520458d162 {v1 v3 v4 v5 : Int} {v0 v2 v6 : Nat} (h0 : (((v0 : Nat) : Int) : Int) = v1) (h1 : (((v2 : Nat) : Int) : Int) = v3) (h2 : (v4 : Int) = (12 * v1)) (h3 : (v5 : Int) = (v4 + v3)) (h4 : (((v2 : Nat) : Int) : Int) = v3) (h5 : (((v6 : Nat) : Int) : Int) = v5) : (v6 : Nat) = ((12 * v0) + v2) := by omega
theorem om_65690c8095fd {v1 v2 v3 v4 v5 : Int} {v0 v6 v7 : Nat} (h0 : (((v0 : Nat) : Int) : Int) = v1) (h1 : (v2 : Int) = v3) (h2 : (v4 : Int) = (24 * v1)) (h3 : (v5 : Int) = (v4 + v2)) (h4 : (((v6 : Nat) : Int) : Int) = ((24 * ((v0 : Nat) : Int)) + v3)) (h5 : (((v7 : Nat) : Int) : Int) = v5) : (v7 : Nat) = v6 := by omega
theorem om_662a2db27a8d {v1 v2 : Int} {v0 v3 v4 v5 : Nat} (h0 : (v0 : Nat) = 12) (h1 : (v1 : Int) < v2) (h2 : (v2 : Int) ≤ ((v0 : Nat) : Int)) (h3 : (((v3 : Nat) : Int) : Int) = v1) (h4 : (((12 * v4) + v3) : Nat) = ((12 * v4) + v5)) : (v5 : Nat) < 12 := by omega
theorem om_6815fc1b8223 {v1 : Int} {v0 : Nat} (h0 : ((((v0 : Nat) : Int) + 1) : Int) = v1) : (v1 : Int) = (((v0 : Nat) : Int) + 1) := by omega
theorem om_696a8c84ba72 {v0 v1 v2 v3 v4 v5 v6 v7 v8 v9 v10 : Int} (h0 : (v0 : Int) ≤ (8051 - (6 * v1))) (h1 : (v2 : Int) = v1) (h2 : (0 : Int) ≤ v0) (h3 : (0 : Int) ≤ v2) (h4 : (v3 : Int) = v0) (h5 : (v4 : Int) = (v3 + 1)) (h6 : (0 : Int) ≤ v5) (h7 : (v5 : Int) ≤ 10000) (h8 : (v6 : Int) = v4) (h9 : (v7 : Int) = v6) (h10 : (v8 : Int) = (v7 + 1)) (h11 : (v9 : Int) = v10) (h12 : (v10 : Int) = v8) : ((((-2147483648) : Int) ≤ (v5 + v9)) ∧ (((v5 + v9) : Int) ≤ 2147483647)) := by omega
theorem om_698b445651e6 : (1 : Int) < (((Int.toNat (1 + 1)) : Nat) : Int) := by omega
theorem om_69cd31f94d1d {v0 : Int} (h0 : (24 : Int) ≤ v0) : (24 : Int) ≤ v0 := by omega
theorem om_6b766c3769d8 {v0 : Int} (h0 : (v0 : Int) = 6) : (v0 : Int) ≠ 10 := by omega
theorem om_6c25244c01f7 {v0 v1 : Int} {v2 : Nat} (h0 : (v0 : Int) < v1) (h1 : (((v2 : Nat) : Int) : Int) = v0) : (((v2 : Nat) : Int) : Int) < v1 := by omega
theorem om_6d8120405029 {v0 : Int} (h0 : ((v0 + 1) : Int) < 8200) : (v0 : Int) ≤ 8200 := by omega
theorem om_6e02740c0f6e {v0 : Int} (h0 : (v0 : Int) = 2) : (v0 : Int) ≠ 10 := by omega
theorem om_6f696e9b6860 {v0 : Int} {v1 : Nat} (h0 : (0 : Int) < v0) (h1 : (((v1 : Nat) : Int) : Int) = v0) : (v1 : Nat) ≠ 0 := by omega
theorem om_71ad80e3b9e8 {v0 v2 v4 v5 : Int} {v1 v3 v6 : Nat} (h0 : (v0 : Int) = ((v1 : Nat) : Int)) (h1 : (v2 : Int) = ((v3 : Nat) : Int)) (h2 : (v4 : Int) = (8 * v0)) (h3 : (v5 : Int) = (v4 + v2)) (h4 : (((v6 : Nat) : Int) : Int) = v5) : (v6 : Nat) = ((8 * v1) + v3) := by omega
theorem om_729715c0e056 {v0 v1 v2 : Int} (h0 : (v0 : Int) ≤ 12) (h1 : (v0 : Int) ≠ 12) (h2 : (0 : Int) ≤ v1) (h3 : (v1 : Int) ≤ v2) (h4 : (v2 : Int) < v0) : ((((-2147483648) : Int) ≤ (v1 + 0)) ∧ (((v1 + 0) : Int) ≤ 2147483647)) := by omega
theorem om_73a6a4c1a0e2 {v0 : Int} (h0 : (0 : Int) ≤ v0) : ((((Int.toNat v0) : Nat) : Int) : Int) = v0 := by omega
theorem om_7441a7786481 {v0 v1 : Int} : ((v0 - v1) : Int) < (((Int.toNat ((v0 - v1) + 1)) : Nat) : Int) := by omega
theorem om_749d193171ea {v0 v2 : Int} {v1 : Nat} (h0 : (v0 : Int) = (((v1 : Nat) : Int) + 1)) (h1 : (v2 : Int) = v0) : (v2 : Int) = (((v1 : Nat) : Int) + 1) := by omega
theorem om_775abba6f3e0 {v0 v1 : Int} (h0 : (v0 : Int) ≤ 8060) (h1 : (v1 : Int) = v0) : (v1 : Int) ≤ 8200 := by omega
theorem om_77f206cde628 {v0 : Int} (h0 : (v0 : Int) = 8) : (v0 : Int) ≠ 10 := by omega
theorem om_7857f0e60d84 {v0 : Int} (h0 : (v0 : Int) = 6) : (v0 : Int) ≠ 1 := by omega
theorem om_78fdcdbfd190 {v0 v1 v2 v3 : Int} (h0 : (v0 : Int) ≤ 12) (h1 : (v0 : Int) ≠ 12) (h2 : (0 : Int) ≤ v1) (h3 : (v1 : Int) ≤ v2) (h4 : (v2 : Int) < v0) (h5 : (v3 : Int) = (v1 + 0)) : (((0 : Int) ≤ v3) ∧ ((v3 : Int) ≤ 12)) := by omega
theorem om_797b5dc038a9 {v0 v1 v2 v3 v4 v5 v6 v7 v8 v9 : Int} (h0 : (v0 : Int) = v1) (h1 : (v2 : Int) = v0) (h2 : (v3 : Int) = v2) (h3 : (v4 : Int) ≤ (8051 - (6 * v3))) (h4 : (v5 : Int) = v4) (h5 : (v6 : Int) = (v5 + 1)) (h6 : (v7 : Int) = v8) (h7 : (v8 : Int) = v6) (h8 : (v9 : Int) = v7) : (v9 : Int) ≤ (8053 - (6 * v1)) := by omega
theorem om_7b93145a47e3 {v0 v1 v2 v3 : Int} (h0 : (0 : Int) ≤ v0) (h1 : (v1 : Int) = v0) (h2 : (v2 : Int) ≤ (8051 - (6 * v1))) (h3 : (v3 : Int) = v2) : (v3 : Int) ≤ 9999 := by omega
theorem om_7d69c0605236 {v0 : Int} (h0 : (v0 : Int) = 9) : ((((-1) : Int) ≤ v0) ∧ ((v0 : Int) ≤ 999999999)) := by omega
theorem om_7d78e07e6d48 {v0 v2 v3 : Int} {v1 : Nat} (h0 : (v0 : Int) = (((v1 : Nat) : Int) + 1)) (h1 : (v2 : Int) = v0) (h2 : (v3 : Int) ≤ (8048 - (6 * v2))) : (v3 : Int) ≤ 9999 := by omega
theorem om_7d9cc8d6a75e {v1 : Int} {v0 v2 : Nat} (h0 : (((v0 : Nat) : Int) : Int) = v1) (h1 : (((v2 : Nat) : Int) : Int) = v1) : (v2 : Nat) = v0 := by omega
theorem om_7ef132e8579b {v0 : Int} (h0 : (v0 : Int) = 5) : (v0 : Int) ≠ 10 := by omega
theorem om_7f2b9fd449ed {v0 : Nat} (h0 : (v0 : Nat) = 1) : (1 : Nat) ≤ v0 := by omega
theorem om_7fa990895e35 {v0 v1 : Int} {v2 : Nat} (h0 : (v0 : Int) = v1) (h1 : (((v2 : Nat) : Int) : Int) = v0) : (v2 : Nat) = (Int.toNat v1) := by omega
theorem om_8009d6250780 {v0 : Int} (h0 : (v0 : Int) ≤ 28) (h1 : ((28 - v0) : Int) < ((0 : Nat) : Int)) : False := by omega
theorem om_817980d3aa47 {v0 : Int} : ((24 - v0) : Int) < (((Int.toNat ((24 - v0) + 1)) : Nat) : Int) := by omega
theorem om_81f591334965 {v0 v1 v2 v3 : Int} {v4 : Nat} (h0 : (0 : Int) ≤ v0) (h1 : (0 : Int) ≤ v1) (h2 : (v2 : Int) = (24 * v1)) (h3 : (v3 : Int) = (v2 + v0)) (h4 : (((v4 : Nat) : Int) : Int) = v3) : (v4 : Nat) = ((24 * (Int.toNat v1)) + (Int.toNat v0)) := by omega
theorem om_820ee80118a3 {v0 v1 v2 : Nat} (h0 : (v0 : Nat) = ((24 * v1) + v2)) : (v0 : Nat) = ((24 * v1) + v2) := by omega
theorem om_82fa09255765 {v1 v2 : Int} {v0 : Nat} (h0 : ((((v0 : Nat) : Int) + 1) : Int) = v1) (h1 : (v2 : Int) = v1) : (v2 : Int) = (((v0 : Nat) : Int) + 1) := by omega
theorem om_84c23b375c4e {v1 v3 v4 v5 : Int} {v0 v2 v6 : Nat} (h0 : (((v0 : Nat) : Int) : Int) = v1) (h1 : (((v2 : Nat) : Int) : Int) = v3) (h2 : (((v0 : Nat) : Int) : Int) = v1) (h3 : (v4 : Int) = (8 * v1)) (h4 : (v5 : Int) = (v4 + v3)) (h5 : (((v6 : Nat) : Int) : Int) = v5) : (v6 : Nat) = ((8 * v0) + v2) := by omega
theorem om_8569a3975aba {v0 v1 v2 : Int} (h0 : (v0 : Int) = v1) (h1 : (v2 : Int) ≤ (8053 - (6 * v0))) : (v2 : Int) ≤ (8054 - (6 * v1)) := by omega
theorem om_888b7a3b1ea6 {v0 v1 v2 v3 v4 v5 : Int} (h0 : (v0 : Int) = (v1 + 1)) (h1 : (v2 : Int) = (v3 + 1)) (h2 : (v4 : Int) = v2) (h3 : (v5 : Int) = v0) : (((v5 - v1) + 1) : Int) ≤ (2 * (v4 - v3)) := by omega
theorem om_890eb046e93a {v0 v1 : Nat} (h0 : (v0 : Nat) = v1) : (v0 : Nat) = v1 := by omega
theorem om_89cf64fcefda {v0 v1 v2 v3 v4 v5 v6 v7 : Int} (h0 : (v0 : Int) = v1) (h1 : (v2 : Int) = v0) (h2 : (v3 : Int) = v2) (h3 : (v4 : Int) = v3) (h4 : (v5 : Int) = v4) (h5 : (v6 : Int) = v5) (h6 : (v7 : Int) = v6) : (v7 : Int) = v1 := by omega
theorem om_8a8293a3b43e {v1 v2 v3 : Int} {v0 v4 : Nat} (h0 : (((v0 : Nat) : Int) : Int) = (1 - v1)) (h1 : (v2 : Int) = (1 - v1)) (h2 : (v3 : Int) = v2) (h3 : (((v4 : Nat) : Int) : Int) = v3) : (v4 : Nat) = v0 := by omega
theorem om_8d46326cbfc1 {v0 : Int} : ((28 - v0) : Int) < (((Int.toNat ((28 - v0) + 1)) : Nat) : Int) := by omega
theorem om_8ef3b060d12d {v0 : Nat} : (((v0 : Nat) : Int) : Int) < (((Int.toNat (((v0 : Nat) : Int) + 1)) : Nat) : Int) := by omega
theorem om_8f901ee50f20 {v1 v3 v4 v5 v6 v7 v8 : Int} {v0 v2 v9 v10 : Nat} (h0 : (((v0 : Nat) : Int) : Int) = v1) (h1 : (((v2 : Nat) : Int) : Int) = v3) (h2 : (v4 : Int) = (24 * v3)) (h3 : (v5 : Int) = (v4 + v1)) (h4 : (v6 : Int) = (8 * v5)) (h5 : (v7 : Int) = (v6 + v8)) (h6 : (((v9 : Nat) : Int) : Int) = v8) (h7 : (((v10 : Nat) : Int) : Int) = v7) : (v10 : Nat) = ((8 * ((24 * v2) + v0)) + v9) := by omega
theorem om_8fc90139ca43 {v0 v1 : Int} (h0 : (v0 : Int) = 0) (h1 : (v1 : Int) = v0) : (v1 : Int) < 400 := by omega
theorem om_9011110baf36 {v0 : Int} : (v0 : Int) < (((Int.toNat (v0 + 1)) : Nat) : Int) := by omega
theorem om_90556f2b6f75 {v0 v1 v2 v3 v4 v5 v6 v7 v8 v9 v10 : Int} (h0 : (0 : Int) ≤ v0) (h1 : (0 : Int) ≤ v1) (h2 : (v2 : Int) = v0) (h3 : (v3 : Int) = (v2 + 1)) (h4 : (0 : Int) ≤ v4) (h5 : (v4 : Int) ≤ 10000) (h6 : (v5 : Int) = v1) (h7 : (v6 : Int) ≤ (8051 - (6 * v5))) (h8 : (v3 : Int) ≤ v6) (h9 : (v7 : Int) = v6) (h10 : (v8 : Int) = (v7 + 1)) (h11 : (v9 : Int) = v10) (h12 : (v10 : Int) = v8) : ((((-2147483648) : Int) ≤ (v4 + v9)) ∧ (((v4 + v9) : Int) ≤ 2147483647)) := by omega
theorem om_931ebda8c858 {v0 v2 v3 v4 : Int} {v1 : Nat} (h0 : ((v0 + ((v1 : Nat) : Int)) : Int) = 8) (h1 : (v2 : Int) = v0) (h2 : (v3 : Int) = v2) (h3 : (v4 : Int) = v3) : ((v4 + ((v1 : Nat) : Int)) : Int) = 8 := by omega
theorem om_9386ef0df612 {v0 : Int} (h0 : (v0 : Int) ≤ 24) (h1 : ((24 - v0) : Int) < ((0 : Nat) : Int)) : False := by omega
theorem om_9491e36c97c0 {v0 v1 : Int} (h0 : (v0 : Int) = 24) (h1 : (v1 : Int) = 4) : ((v0 + v1) : Int) ≤ 28 := by omega
theorem om_95ea9e43c4d3 {v0 : Int} (h0 : (v0 : Int) ≤ 8200) (h1 : ((8200 - v0) : Int) < ((0 : Nat) : Int)) : False := by omega
theorem om_972fae222a5e {v0 : Int} (h0 : (v0 : Int) = 9) : (v0 : Int) = 9 := by omega
theorem om_990cc15e8b77 {v0 v1 v2 : Int} (h0 : (v0 : Int) = v1) (h1 : (v1 : Int) ≤ 12) (h2 : ((-1) : Int) ≤ v2) (h3 : (v2 : Int) < v0) : ((((-1) : Int) ≤ v2) ∧ ((v2 : Int) ≤ 11)) := by omega
theorem om_9af74326e8db {v0 : Int} (h0 : ((-1) : Int) ≤ v0) (h1 : (v0 : Int) < 0) : (v0 : Int) = (-1) := by omega
theorem om_9b5a1bfccef0 {v0 v1 : Int} (h0 : (v0 : Int) = v1) (h1 : (0 : Int) ≤ v1) (h2 : (v1 : Int) ≤ 12) : (((0 : Int) ≤ v0) ∧ ((v0 : Int) ≤ 12)) := by omega
theorem om_9c959d5ccbf0 {v0 v1 : Int} (h0 : ((-1) : Int) ≤ v0) (h1 : (v0 : Int) ≠ (-1)) (h2 : (v1 : Int) = v0) : (v1 : Int) = (((Int.toNat v0) : Nat) : Int) := by omega
theorem om_a1185fbb59ea {v1 v2 : Int} {v0 : Nat} (h0 : (((v0 : Nat) : Int) : Int) = v1) (h1 : (((v0 : Nat) : Int) : Int) = v1) (h2 : (v2 : Int) = (v1 + 1)) : ((Int.toNat v2) : Nat) = (v0 + 1) := by omega
theorem om_a1fbeb1900ae {v0 : Int} (h0 : (v0 : Int) = 10) : (v0 : Int) ≠ 1 := by omega
theorem om_a4cbf953e09c {v0 : Int} : ((8 - v0) : Int) < (((Int.toNat ((8 - v0) + 1)) : Nat) : Int) := by omega
theorem om_a5f30fcc21ed {v0 v1 v2 : Int} (h0 : (v0 : Int) = v1) (h1 : (v2 : Int) = v0) (h2 : (0 : Int) ≤ v2) : ((Int.toNat v1) : Nat) ≤ (Int.toNat v0) := by omega
theorem om_a8327d0a6bdb {v0 : Int} (h0 : (v0 : Int) = 8) : (((5 : Int) ≤ v0) ∧ ((v0 : Int) ≤ 9)) := by omega
theorem om_ac64a06af8c0 {v0 : Int} (h0 : (v0 : Int) ≤ 395) : (v0 : Int) < 400 := by omega
theorem om_ad1607af5b23 {v0 v1 v2 v3 : Int} (h0 : (0 : Int) ≤ v0) (h1 : (v0 : Int) ≤ 1) (h2 : (v1 : Int) = (24 * v0)) (h3 : (0 : Int) ≤ v2) (h4 : (v2 : Int) ≤ 24) (h5 : (v3 : Int) = (v1 + v2)) (h6 : (v2 : Int) ≠ 24) : ((((-2147483648) : Int) ≤ (20 * v3)) ∧ (((20 * v3) : Int) ≤ 2147483647)) := by omega
theorem om_adb5890422c8 {v0 v1 : Int} (h0 : (v0 : Int) ≤ 12) (h1 : (v0 : Int) ≠ 12) (h2 : (0 : Int) ≤ v1) (h3 : (v1 : Int) < v0) : ((((-2147483648) : Int) ≤ (v1 + 1)) ∧ (((v1 + 1) : Int) ≤ 2147483647)) := by omega
theorem om_add7d9e78a51 {v1 v2 v3 v4 : Int} {v0 v5 v6 : Nat} (h0 : (((v0 : Nat) : Int) : Int) = v1) (h1 : (v2 : Int) = (v1 * 24)) (h2 : (v3 : Int) = (v2 + v4)) (h3 : (((v5 : Nat) : Int) : Int) = v4) (h4 : (((v6 : Nat) : Int) : Int) = v3) : (v6 : Nat) = ((24 * v0) + v5) := by omega
theorem om_afd15366e1d9 {v0 : Int} {v1 v2 v3 : Nat} (h0 : (v0 : Int) ≤ 23) (h1 : (((v1 : Nat) : Int) : Int) = v0) (h2 : (((24 * v2) + v1) : Nat) = ((24 * v2) + v3)) : (v3 : Nat) < 24 := by omega
theorem om_b032fdfdc93c {v0 v2 v3 v4 v5 v6 : Int} {v1 : Nat} (h0 : ((v0 + ((v1 : Nat) : Int)) : Int) = 8) (h1 : (v2 : Int) = v0) (h2 : (v3 : Int) = v2) (h3 : (v4 : Int) = v3) (h4 : (v5 : Int) = v4) (h5 : (v6 : Int) = v5) : (v6 : Int) ≤ 8 := by omega
theorem om_b4ce6ae7be49 {v0 : Int} (h0 : (v0 : Int) ≤ 40) (h1 : ((40 - v0) : Int) < ((0 : Nat) : Int)) : False := by omega
theorem om_b57d09e2e28e {v0 v2 v3 v4 : Int} {v1 v5 v6 : Nat} (h0 : (v0 : Int) = ((v1 : Nat) : Int)) (h1 : (v2 : Int) = (24 * v0)) (h2 : (v3 : Int) = (v2 + v4)) (h3 : (((v5 : Nat) : Int) : Int) = v4) (h4 : (((v6 : Nat) : Int) : Int) = v3) : (v6 : Nat) = ((24 * v1) + v5) := by omega
theorem om_b5a1efc39fd9 {v1 v3 v4 v5 v6 v7 v8 : Int} {v0 v2 v9 v10 : Nat} (h0 : (((v0 : Nat) : Int) : Int) = v1) (h1 : (((v2 : Nat) : Int) : Int) = v3) (h2 : (v4 : Int) = (8 * v1)) (h3 : (v5 : Int) = (v4 + v3)) (h4 : (v6 : Int) = (24 * v5)) (h5 : (v7 : Int) = (v6 + v8)) (h6 : (((v2 : Nat) : Int) : Int) = v3) (h7 : (((v9 : Nat) : Int) : Int) = v8) (h8 : (((v10 : Nat) : Int) : Int) = v7) : (v10 : Nat) = ((24 * ((8 * v0) + v2)) + v9) := by omega
theorem om_b5a23d9d4eed {v0 v1 v2 v3 v4 v5 v6 : Int} {v7 v8 v9 v10 : Nat} (h0 : (v0 : Int) = (8 * v1)) (h1 : (v2 : Int) = (v0 + v3)) (h2 : (v4 : Int) = (8 * v1)) (h3 : (v5 : Int) = (v4 + v3)) (h4 : (v6 : Int) = (24 * v5)) (h5 : (v7 : Nat) = (24 * ((8 * v8) + v9))) (h6 : (((v7 : Nat) : Int) : Int) = v6) (h7 : (((v10 : Nat) : Int) : Int) = v2) : (v10 : Nat) = ((8 * v8) + v9) := by omega
theorem om_b6249f72a63f {v0 v2 : Int} {v1 : Nat} (h0 : ((20 - v0) : Int) < (((v1 + 1) : Nat) : Int)) (h1 : (v2 : Int) = (v0 + 1)) : ((20 - v2) : Int) < ((v1 : Nat) : Int) := by omega
theorem om_b90624aa1a8d {v0 v1 v2 v3 : Int} (h0 : (v0 : Int) ≤ 12) (h1 : (v0 : Int) ≠ 12) (h2 : (0 : Int) ≤ v1) (h3 : (v1 : Int) ≤ v2) (h4 : (v2 : Int) < v0) (h5 : (v3 : Int) = (v1 + 1)) : (((0 : Int) ≤ v3) ∧ ((v3 : Int) ≤ 12)) := by omega
theorem om_b92471f3b208 {v0 v1 v2 v3 : Int} (h0 : (v0 : Int) ≤ (8051 - (6 * v1))) (h1 : (v2 : Int) = v1) (h2 : (0 : Int) ≤ v2) (h3 : (v3 : Int) = v0) : (v3 : Int) ≤ 9999 := by omega
theorem om_b93d545ce471 {v0 v1 v2 v3 v4 v5 v6 v7 v8 : Int} (h0 : (v0 : Int) ≤ (8051 - (6 * v1))) (h1 : (v2 : Int) = v1) (h2 : (0 : Int) ≤ v0) (h3 : (0 : Int) ≤ v2) (h4 : (v3 : Int) = v0) (h5 : (v4 : Int) = (v3 + 1)) (h6 : (0 : Int) ≤ v5) (h7 : (v5 : Int) ≤ 10000) (h8 : (v6 : Int) = v4) (h9 : (v7 : Int) = v6) (h10 : (v8 : Int) = (v7 + 1)) : ((((-2147483648) : Int) ≤ (v5 + v8)) ∧ (((v5 + v8) : Int) ≤ 2147483647)) := by omega
theorem om_b9de4c342026 {v0 : Int} (h0 : (v0 : Int) ≤ 12) (h1 : ((12 - v0) : Int) < ((0 : Nat) : Int)) : False := by omega
theorem om_bab9fec01fc9 {v0 v1 v3 : Int} {v2 : Nat} (h0 : (v0 : Int) = v1) (h1 : (v1 : Int) = ((v2 : Nat) : Int)) (h2 : ((Int.toNat v3) : Nat) < v2) : (0 : Int) < v0 := by omega
theorem om_baf56f307ee1 {v0 : Int} (h0 : (v0 : Int) = 9) : (v0 : Int) ≠ 10 := by omega
theorem om_bb37a0d3ebaf {v0 v1 : Int} (h0 : (v0 : Int) = 0) (h1 : (v1 : Int) = 0) : (v1 : Int) = v0 := by omega
theorem om_bb68b85f87a5 {v0 : Int} (h0 : (0 : Int) ≤ v0) : (v0 : Int) = (((Int.toNat v0) : Nat) : Int) := by omega
theorem om_bbadbcc0a569 {v0 v2 v3 v4 : Int} {v1 : Nat} (h0 : ((v0 + ((v1 : Nat) : Int)) : Int) = 8) (h1 : (v2 : Int) = v0) (h2 : (v3 : Int) = v2) (h3 : (v4 : Int) = v3) : (v4 : Int) ≤ 8 := by omega
theorem om_be7e3b1de7fd {v0 : Int} : ((4000 - v0) : Int) < (((Int.toNat ((4000 - v0) + 1)) : Nat) : Int) := by omega
theorem om_be9129954896 {v1 v3 v4 v5 v6 v7 v8 v9 : Int} {v0 v2 v10 : Nat} (h0 : (((v0 : Nat) : Int) : Int) = v1) (h1 : (((v2 : Nat) : Int) : Int) = v3) (h2 : (v4 : Int) = (8 * v1)) (h3 : (v5 : Int) = (v4 + v3)) (h4 : (v6 : Int) = (24 * v5)) (h5 : (v7 : Int) = v8) (h6 : (v9 : Int) = (v6 + v8)) (h7 : (((v10 : Nat) : Int) : Int) = v9) : (((v10 : Nat) : Int) : Int) = ((24 * ((8 * ((v0 : Nat) : Int)) + ((v2 : Nat) : Int))) + v7) := by omega
theorem om_bf0e3b534480 {v0 v1 : Int} (h0 : (v0 : Int) ≤ 24) (h1 : (v1 : Int) < v0) (h2 : (0 : Int) ≤ v1) : ((Int.toNat v1) : Nat) < 24 := by omega
theorem om_bf87e1d806c5 {v0 v1 : Int} (h0 : (v0 : Int) = v1) (h1 : (v0 : Int) ≤ 24) (h2 : (v0 : Int) ≠ 24) : (v1 : Int) ≤ 23 := by omega
theorem om_c09d41618ed8 {v0 v1 : Nat} (h0 : (v0 : Nat) < v1) : ((v0 + 1) : Nat) ≤ v1 := by omega
theorem om_c14b7be4919a {v0 : Int} (h0 : (v0 : Int) = 11) : (v0 : Int) ≠ 1 := by omega
theorem om_c5789a6ab549 {v1 v2 v4 v6 v7 v8 v9 : Int} {v0 v3 v5 v10 : Nat} (h0 : (((v0 : Nat) : Int) : Int) = v1) (h1 : (v2 : Int) = ((v3 : Nat) : Int)) (h2 : (v4 : Int) = ((v5 : Nat) : Int)) (h3 : (v6 : Int) = (24 * v1)) (h4 : (v7 : Int) = (v6 + v2)) (h5 : (v8 : Int) = (8 * v7)) (h6 : (v9 : Int) = (v8 + v4)) (h7 : (((v10 : Nat) : Int) : Int) = v9) : (v10 : Nat) = ((8 * ((24 * v0) + v3)) + v5) := by omega
theorem om_c5d3108a094e {v0 v1 v2 v3 : Int} (h0 : (v0 : Int) = 0) (h1 : (v1 : Int) = v0) (h2 : (v2 : Int) = v1) (h3 : (v3 : Int) = v2) : (v3 : Int) = 0 := by omega
theorem om_c69b2a4eecda {v0 v1 : Int} (h0 : (v0 : Int) ≤ 1) (h1 : (v0 : Int) = 1) (h2 : (v1 : Int) = v0) : (v1 : Int) = 1 := by omega
theorem om_c7b543149410 {v0 : Int} (h0 : (0 : Int) ≤ v0) (h1 : (v0 : Int) ≤ 0) : (((0 : Int) ≤ v0) ∧ ((v0 : Int) ≤ 3)) := by omega
theorem om_c8124caa8f7e {v0 v1 v2 : Int} (h0 : (0 : Int) ≤ v0) (h1 : (v1 : Int) = v0) (h2 : (v2 : Int) = v1) : ((Int.toNat v0) : Nat) ≤ (Int.toNat v2) := by omega
theorem om_c81621550cec {v0 : Int} : ((20 - v0) : Int) < (((Int.toNat ((20 - v0) + 1)) : Nat) : Int) := by omega
theorem om_c817cff9597c {v1 v2 v3 v4 : Int} {v0 v5 v6 : Nat} (h0 : (((v0 : Nat) : Int) : Int) = v1) (h1 : (v2 : Int) = (24 * v3)) (h2 : (v4 : Int) = (v2 + v1)) (h3 : (((v5 : Nat) : Int) : Int) = v3) (h4 : (((v6 : Nat) : Int) : Int) = v4) : (v6 : Nat) = ((24 * v5) + v0) := by omega
theorem om_c89ac3f20c51 {v0 v1 v2 : Int} (h0 : (0 : Int) ≤ v0) (h1 : (v0 : Int) = 0) (h2 : (v1 : Int) = v0) (h3 : (v2 : Int) = v1) : (v2 : Int) = 0 := by omega
theorem om_c8d4dd19bb17 {v0 : Int} (h0 : (v0 : Int) ≤ 960) (h1 : ((960 - v0) : Int) < ((0 : Nat) : Int)) : False := by omega
theorem om_c8ebb9144044 {v0 : Int} {v1 v2 : Nat} (h0 : (v0 : Int) = (((v1 : Nat) : Int) + 1)) (h1 : (((v2 : Nat) : Int) : Int) = v0) : (v2 : Nat) = (v1 + 1) := by omega
theorem om_c9eec6a79f34 {v0 : Int} (h0 : (v0 : Int) ≤ 6) (h1 : ((7 - v0) : Int) < ((0 : Nat) : Int)) : False := by omega
theorem om_cb1389518181 {v0 v1 v2 : Int} (h0 : (v0 : Int) = v1) (h1 : (v2 : Int) = v0) (h2 : (0 : Int) ≤ v2) : ((Int.toNat v1) : Nat) ≤ (Int.toNat v2) := by omega
theorem om_cb6592a7774c {v0 : Int} (h0 : (v0 : Int) < 400) : (v0 : Int) < 400 := by omega
theorem om_cbf1915840be {v0 v1 : Int} (h0 : (v0 : Int) ≤ 12) (h1 : (v1 : Int) < v0) (h2 : (0 : Int) ≤ v1) : ((Int.toNat v1) : Nat) < 12 := by omega
theorem om_cec35c7ce938 {v0 : Int} (h0 : (0 : Int) ≤ v0) (h1 : (v0 : Int) ≤ 0) : (((0 : Int) ≤ v0) ∧ ((v0 : Int) ≤ 99)) := by omega
theorem om_cfceb44fc703 {v0 v1 : Int} {v2 v3 : Nat} (h0 : (v0 : Int) = (v1 + 1)) (h1 : (0 : Int) ≤ v1) (h2 : ((Int.toNat v1) : Nat) = v2) (h3 : (((v3 : Nat) : Int) : Int) = v0) : (v3 : Nat) = (v2 + 1) := by omega
theorem om_d0608cd58140 {v0 v1 v2 v3 v4 v5 v6 v7 v8 v9 v10 : Int} (h0 : (v0 : Int) = v1) (h1 : (v2 : Int) ≤ (8051 - (6 * v0))) (h2 : (v3 : Int) = v2) (h3 : (v4 : Int) = (v3 + 1)) (h4 : (v5 : Int) = v4) (h5 : (v6 : Int) = v5) (h6 : (v7 : Int) = (v6 + 1)) (h7 : (v8 : Int) = v9) (h8 : (v9 : Int) = v7) (h9 : (v10 : Int) = v8) : (v10 : Int) ≤ (8053 - (6 * v1)) := by omega
theorem om_d0b97c48bf8f {v0 : Int} (h0 : ((-1) : Int) ≤ v0) (h1 : (v0 : Int) ≤ 19) (h2 : (v0 : Int) ≠ (-1)) : ((Int.toNat v0) : Nat) < 20 := by omega
theorem om_d0bf4b743eaa {v0 v1 v2 v3 : Int} {v4 v5 v6 : Nat} (h0 : (v0 : Int) = (v1 * 8)) (h1 : (v2 : Int) = (v0 + v3)) (h2 : (((v4 : Nat) : Int) : Int) = v1) (h3 : (((v5 : Nat) : Int) : Int) = v3) (h4 : (((v6 : Nat) : Int) : Int) = v2) : (v6 : Nat) = ((8 * v4) + v5) := by omega
theorem om_d148850a3429 {v0 v1 v2 v3 v4 v5 v6 v7 v8 : Int} (h0 : (0 : Int) ≤ v0) (h1 : (0 : Int) ≤ v1) (h2 : (v2 : Int) = v0) (h3 : (v3 : Int) = (v2 + 1)) (h4 : (0 : Int) ≤ v4) (h5 : (v4 : Int) ≤ 10000) (h6 : (v5 : Int) = v1) (h7 : (v6 : Int) ≤ (8051 - (6 * v5))) (h8 : (v3 : Int) ≤ v6) (h9 : (v7 : Int) = v6) (h10 : (v8 : Int) = (v7 + 1)) : ((((-2147483648) : Int) ≤ (v4 + v8)) ∧ (((v4 + v8) : Int) ≤ 2147483647)) := by omega
theorem om_d1c11830012b {v0 : Int} (h0 : (v0 : Int) = 4) : (v0 : Int) ≠ 1 := by omega
theorem om_d1f22e1e2f79 {v0 v1 : Int} {v2 v3 : Nat} (h0 : (v0 : Int) = (v1 + 1)) (h1 : (((v2 : Nat) : Int) : Int) = v0) (h2 : (((v3 : Nat) : Int) : Int) = v1) : (v2 : Nat) = (v3 + 1) := by omega
theorem om_d270094c0145 {v0 v2 v3 v4 v5 v6 : Int} {v1 : Nat} (h0 : (v0 : Int) = ((v1 : Nat) : Int)) (h1 : (v2 : Int) = v0) (h2 : (v3 : Int) = v2) (h3 : (v4 : Int) = v3) (h4 : (v5 : Int) = v4) (h5 : (v6 : Int) = v5) : (v6 : Int) = ((v1 : Nat) : Int) := by omega
theorem om_d3aaef35fb7e {v0 v1 v2 v3 : Int} (h0 : (v0 : Int) = v1) (h1 : (v2 : Int) = v0) (h2 : (0 : Int) ≤ v2) (h3 : (v3 : Int) = v2) : ((Int.toNat v1) : Nat) ≤ (Int.toNat v3) := by omega
theorem om_d61f7d460e30 {v1 v2 v3 v4 v6 : Int} {v0 v5 v7 : Nat} (h0 : (((v0 : Nat) : Int) : Int) = v1) (h1 : (v2 : Int) = (24 * v3)) (h2 : (v4 : Int) = (v2 + v1)) (h3 : (((v5 : Nat) : Int) : Int) = v6) (h4 : (v6 : Int) = v3) (h5 : (((v7 : Nat) : Int) : Int) = v4) : (v7 : Nat) = ((24 * v5) + v0) := by omega
theorem om_da191fe1bdb9 {v0 v1 v2 v3 v4 v5 v6 v7 v8 v9 v10 : Int} (h0 : (v0 : Int) = v1) (h1 : (v0 : Int) ≤ v2) (h2 : (v3 : Int) = v2) (h3 : (v4 : Int) = (v3 + 1)) (h4 : (v4 : Int) ≤ v5) (h5 : (v6 : Int) = v5) (h6 : (v7 : Int) = (v6 + 1)) (h7 : (v8 : Int) = v9) (h8 : (v9 : Int) = v7) (h9 : (v10 : Int) = v8) : (v1 : Int) ≤ v10 := by omega
theorem om_daf12137c7c2 {v0 v1 : Int} (h0 : (0 : Int) ≤ v0) (h1 : (v0 : Int) = v1) : (0 : Int) ≤ v1 := by omega
theorem om_dca0de52e899 {v1 v2 v3 v4 : Int} {v0 : Nat} (h0 : ((((v0 : Nat) : Int) + 1) : Int) = v1) (h1 : (v2 : Int) = v1) (h2 : (v3 : Int) = (v2 - 1)) (h3 : (v4 : Int) = v3) : (v4 : Int) = ((v0 : Nat) : Int) := by omega
theorem om_dccebbbf934a {v0 : Int} {v1 : Nat} (h0 : (v0 : Int) ≤ 7) (h1 : (0 : Int) ≤ v0) (h2 : ((Int.toNat v0) : Nat) = v1) : (v1 : Nat) < 8 := by omega
theorem om_ddae691e5635 {v0 : Int} {v1 : Nat} (h0 : (0 : Int) < v0) (h1 : (((v1 : Nat) : Int) : Int) = v0) : (0 : Nat) < v1 := by omega
theorem om_df07dbc60b8c {v0 v1 v2 v3 : Int} (h0 : (v0 : Int) = v1) (h1 : (v2 : Int) ≤ (8051 - (6 * v0))) (h2 : (v3 : Int) = v2) : (v3 : Int) ≤ (8054 - (6 * v1)) := by omega
theorem om_df3b24190af0 {v0 : Int} (h0 : ((v0 + 1) : Int) < 8200) : (v0 : Int) < 8200 := by omega
theorem om_df68464672bd {v0 : Int} (h0 : (v0 : Int) = 1) : (v0 : Int) ≠ 10 := by omega
theorem om_dfb1d281b579 {v0 v2 : Int} {v1 : Nat} (h0 : ((12 - v0) : Int) < (((v1 + 1) : Nat) : Int)) (h1 : (v2 : Int) = (v0 + 1)) : ((12 - v2) : Int) < ((v1 : Nat) : Int) := by omega
theorem om_e113bf57a97b {v1 v2 : Int} {v0 v3 : Nat} (h0 : (((v0 : Nat) : Int) : Int) = (1 - v1)) (h1 : (v2 : Int) = (1 - v1)) (h2 : (((v3 : Nat) : Int) : Int) = v2) : (v3 : Nat) = v0 := by omega
theorem om_e14d89dbab7d {v1 v3 : Int} {v0 v2 : Nat} (h0 : ((((v0 : Nat) : Int) + 1) : Int) = v1) (h1 : (v2 : Nat) = v0) (h2 : (v3 : Int) = v1) : ((Int.toNat v3) : Nat) = (v2 + 1) := by omega
theorem om_e21b67e8557c {v1 : Int} {v0 v2 : Nat} (h0 : (((v0 : Nat) : Int) : Int) = v1) (h1 : (v1 : Int) < ((v2 : Nat) : Int)) : ((Int.toNat v1) : Nat) < v2 := by omega
theorem om_e2604d380dc4 {v0 : Int} (h0 : (v0 : Int) ≤ 100) (h1 : ((100 - v0) : Int) < ((0 : Nat) : Int)) : False := by omega
theorem om_e26289800094 {v0 v1 v2 v3 : Int} (h0 : (v0 : Int) = v1) (h1 : (v2 : Int) ≤ (8052 - (6 * v0))) (h2 : (v3 : Int) = (v2 + 1)) : (v3 : Int) ≤ (8054 - (6 * v1)) := by omega
theorem om_e2d570575604 {v0 : Int} (h0 : (v0 : Int) ≤ 8) (h1 : ((8 - v0) : Int) < ((0 : Nat) : Int)) : False := by omega
theorem om_e44dd51abc87 {v0 : Nat} : ((((v0 : Nat) : Int) + 1) : Int) < (((Int.toNat ((((v0 : Nat) : Int) + 1) + 1)) : Nat) : Int) := by omega
theorem om_e48f75870c6d {v0 v1 v2 : Int} (h0 : (v0 : Int) ≤ 8000) (h1 : (v0 : Int) = v1) (h2 : (v2 : Int) = v1) : (v2 : Int) ≤ 8120 := by omega
theorem om_e6b264569fa2 {v0 : Int} (h0 : (v0 : Int) ≤ 23) (h1 : ((24 - v0) : Int) < ((0 : Nat) : Int)) : False := by omega
theorem om_e74b57b43c73 {v0 v2 : Int} {v1 : Nat} (h0 : (0 : Int) ≤ v0) (h1 : (((v1 : Nat) : Int) : Int) = v0) (h2 : (v2 : Int) = (v0 + 1)) : ((Int.toNat v2) : Nat) = (v1 + 1) := by omega
theorem om_e92393954ea7 {v0 v1 v2 v3 v4 v5 v6 : Int} (h0 : (0 : Int) ≤ v0) (h1 : (v1 : Int) = v0) (h2 : (v2 : Int) = (v1 + 1)) (h3 : (0 : Int) ≤ v3) (h4 : (v3 : Int) ≤ 10000) (h5 : (v4 : Int) = v2) (h6 : (v5 : Int) = v4) (h7 : (v6 : Int) = (v5 + 1)) (h8 : (v6 : Int) ≤ 10000) : ((((-2147483648) : Int) ≤ (v3 + v6)) ∧ (((v3 + v6) : Int) ≤ 2147483647)) := by omega
theorem om_e9e963312a93 {v0 : Int} (h0 : (v0 : Int) = 8) : (v0 : Int) ≠ 1 := by omega
theorem om_ecdae44fb13c {v0 : Nat} (h0 : ((v0 + 1) : Nat) ≤ 395) : (v0 : Nat) ≤ 394 := by omega
theorem om_ee1a48c8b2ca {v0 v1 v2 v3 v4 v5 v6 v7 v8 v9 v10 : Int} (h0 : (v0 : Int) = v1) (h1 : (v0 : Int) ≤ v2) (h2 : (v3 : Int) = v2) (h3 : (v4 : Int) = (v3 + 1)) (h4 : (v5 : Int) = v4) (h5 : (v6 : Int) = v5) (h6 : (v7 : Int) = (v6 + 1)) (h7 : (v8 : Int) = v9) (h8 : (v9 : Int) = v7) (h9 : (v10 : Int) = v8) : (v1 : Int) ≤ v10 := by omega
theorem om_ef61e0f03864 {v0 v1 v2 v3 v4 v5 v6 v7 : Int} (h0 : (v0 : Int) = v1) (h1 : (v2 : Int) = v0) (h2 : (v3 : Int) = v2) (h3 : (v4 : Int) = v3) (h4 : (v5 : Int) = v4) (h5 : (v6 : Int) ≤ (8051 - (6 * v5))) (h6 : (v7 : Int) = v6) : (v7 : Int) ≤ (8053 - (6 * v1)) := by omega
theorem om_efbaa4eebb47 {v0 : Int} (h0 : (v0 : Int) = 7) : (v0 : Int) ≠ 10 := by omega
theorem om_f1631371002d {v0 : Int} (h0 : (v0 : Int) = 4) : (v0 : Int) ≠ 10 := by omega
theorem om_f221f60ae7cc {v0 : Nat} (h0 : (((v0 : Nat) : Int) : Int) < ((0 : Nat) : Int)) : False := by omega
theorem om_f2444a3e49ba {v1 v3 : Int} {v0 v2 : Nat} (h0 : ((((v0 : Nat) : Int) + 1) : Int) = v1) (h1 : (v2 : Nat) = v0) (h2 : (v2 : Nat) ≤ 394) (h3 : (v3 : Int) = v1) : (v3 : Int) < 400 := by omega
theorem om_f291903a0ae3 {v0 : Int} (h0 : (v0 : Int) = 0) : (v0 : Int) < 400 := by omega
theorem om_f2af71c7e127 {v0 v1 v2 v3 : Int} (h0 : (v0 : Int) = v1) (h1 : (v2 : Int) ≤ (8048 - (6 * v0))) (h2 : (v3 : Int) = (v2 + 1)) : (v3 : Int) ≤ (8054 - (6 * v1)) := by omega
theorem om_f3670f831c1f {v0 : Int} {v1 : Nat} (h0 : (0 : Int) ≤ v0) (h1 : (v0 : Int) < ((v1 : Nat) : Int)) : ((Int.toNat v0) : Nat) < v1 := by omega
theorem om_f460c195fb7f {v0 v1 v2 v3 v4 v5 v6 v7 v8 v9 v10 v11 v12 : Int} (h0 : (0 : Int) ≤ v0) (h1 : (0 : Int) ≤ v1) (h2 : (v2 : Int) = v0) (h3 : (v3 : Int) = (v2 + 1)) (h4 : (0 : Int) ≤ v4) (h5 : (v4 : Int) ≤ 10000) (h6 : (v5 : Int) = v1) (h7 : (v6 : Int) = v5) (h8 : (v3 : Int) ≤ v7) (h9 : (v8 : Int) = v7) (h10 : (v9 : Int) = (v8 + 1)) (h11 : (v10 : Int) = v9) (h12 : (v11 : Int) = v6) (h13 : (v12 : Int) ≤ (8051 - (6 * v11))) (h14 : (v10 : Int) ≤ v12) : ((((-2147483648) : Int) ≤ (v4 + v12)) ∧ (((v4 + v12) : Int) ≤ 2147483647)) := by omega
theorem om_f47c93d3bf8b {v0 : Int} (h0 : (v0 : Int) = 5) : (((5 : Int) ≤ v0) ∧ ((v0 : Int) ≤ 9)) := by omega
theorem om_f4977cdc9bae {v0 v2 v3 : Int} {v1 : Nat} (h0 : (v0 : Int) = (((v1 : Nat) : Int) + 1)) (h1 : (v2 : Int) = v0) (h2 : (v3 : Int) ≤ (8052 - (6 * v2))) : (v3 : Int) ≤ 9999 := by omega
theorem om_f4e8f7aef971 {v0 v1 : Int} (h0 : (0 : Int) ≤ v0) (h1 : (v1 : Int) = v0) : ((Int.toNat v0) : Nat) ≤ (Int.toNat v1) := by omega
theorem om_f5055dce6508 {v0 : Int} (h0 : (v0 : Int) = 8) : (v0 : Int) = 8 := by omega
theorem om_f5ca6cddf3be {v0 v1 v2 v3 v4 : Int} (h0 : (0 : Int) ≤ v0) (h1 : (v1 : Int) = v0) (h2 : (v2 : Int) = (v3 + v1)) (h3 : (v3 : Int) = v4) (h4 : (0 : Int) ≤ v4) : (0 : Int) ≤ v2 := by omega
theorem om_f83a9f502b35 {v0 : Int} {v1 v2 : Nat} (h0 : (v0 : Int) = (((v1 + 1) : Nat) : Int)) (h1 : (v1 : Nat) = v2) : (v0 : Int) = (((v2 : Nat) : Int) + 1) := by omega
theorem om_f8ddf9becbdf {v0 : Int} (h0 : ((-1) : Int) ≤ v0) (h1 : ((v0 + 1) : Int) < ((0 : Nat) : Int)) : False := by omega
theorem om_f9bfce0d51f5 {v0 v2 : Int} {v1 v3 : Nat} (h0 : (v0 : Int) = ((v1 : Nat) : Int)) (h1 : (v2 : Int) ≤ v0) (h2 : (v0 : Int) ≤ v2) (h3 : (((v3 : Nat) : Int) : Int) = v2) : (v3 : Nat) = v1 := by omega
theorem om_fd8d970f3df8 {v0 v1 v2 v3 : Int} (h0 : (0 : Int) ≤ v0) (h1 : (v0 : Int) ≤ 1) (h2 : (v1 : Int) = (24 * v0)) (h3 : (0 : Int) ≤ v2) (h4 : (v2 : Int) ≤ 24) (h5 : (v3 : Int) = (v1 + v2)) (h6 : (v2 : Int) ≠ 24) : ((((-1) : Int) ≤ v3) ∧ ((v3 : Int) ≤ 47)) := by omega
theorem om_fef0be1a3cbf {v0 : Int} : ((8200 - v0) : Int) < (((Int.toNat ((8200 - v0) + 1)) : Nat) : Int) := by omega
theorem om_ffe63225619c {v0 : Int} (h0 : (v0 : Int) = 7) : (((5 : Int) ≤ v0) ∧ ((v0 : Int) ≤ 9)) := by omega
/-! what a book's tokens mean: a machine with a list of what is still to be read -/
/-- what is to be read: its sort, a number, two bounds, a word, what was listed -/
abbrev It := Nat × Nat × Int × Int × Int64 × List Nat
abbrev Itake (c : Int) : It := (0, 0, c, 0, 0, [])
abbrev Iexpr (d : Nat) : It := (1, d, 0, 0, 0, [])
abbrev Icmp (d : Nat) : It := (2, d, 0, 0, 0, [])
abbrev Isum (d : Nat) : It := (3, d, 0, 0, 0, [])
abbrev IsumR (d : Nat) : It := (4, d, 0, 0, 0, [])
abbrev Iprod (d : Nat) : It := (5, d, 0, 0, 0, [])
abbrev IprodR (d : Nat) : It := (6, d, 0, 0, 0, [])
abbrev Ipart (d : Nat) : It := (7, d, 0, 0, 0, [])
abbrev Inum (lo hi : Int) : It := (8, 0, lo, hi, 0, [])
abbrev Isetting : It := (9, 0, 0, 0, 0, [])
abbrev IofM (d v : Nat) : It := (10, d, (v : Int), 0, 0, [])
abbrev Iword (a : Int) (f : Nat) : It := (11, f, a, 0, 0, [])
abbrev Istmt : It := (12, 0, 0, 0, 0, [])
abbrev InewType : It := (13, 0, 0, 0, 0, [])
abbrev Itypes (c : Int) (w : Int64) (n : Nat) (seen : List Nat) : It := (14, n, c, 0, w, seen)
abbrev IaddTy (w : Int64) (seen : List Nat) : It := (15, 0, 0, 0, w, seen)
abbrev InewSet : It := (16, 0, 0, 0, 0, [])
abbrev IaddSe (w : Int64) (v : Nat) : It := (17, v, 0, 0, w, [])
abbrev InewComp : It := (18, 0, 0, 0, 0, [])
abbrev Iscope (w : Int64) (seen : List Nat) : It := (19, 0, 0, 0, w, seen)
abbrev Icalled (a : Int) (f : Nat) : It := (20, f, a, 0, 0, [])
abbrev Irank (m : Nat) (sc : Int) (w : Int64) (l : List Nat) : It := (21, m, sc, 0, w, l)
abbrev IwhenI (m : Nat) (sc : Int) (w : Int64) (l : List Nat) : It := (22, m, sc, 0, w, l)
abbrev IaddNm (m : Nat) (sc : Int) (w : Int64) (l : List Nat) : It := (23, m, sc, 0, w, l)
abbrev Imember : It := (24, 0, 0, 0, 0, [])
abbrev IneedT (a : Int) : It := (25, 0, a, 0, 0, [])
abbrev IaddNeed (a : Int) (f ca : Nat) : It := (26, f, a, 0, 0, [ca])
abbrev ImethN : It := (27, 0, 0, 0, 0, [])
abbrev IwrapType : It := (28, 0, 0, 0, 0, [])
abbrev IwrapMeth (f : Nat) : It := (29, f, 0, 0, 0, [])
abbrev Iphase (f : Nat) (l : List Nat) : It := (30, f, 0, 0, 0, l)
abbrev IaddWr (f : Nat) (a : Int) (l : List Nat) : It := (31, f, a, 0, 0, l)
abbrev Ilike (w : Int64) : It := (32, 0, 0, 0, w, [])
abbrev Imore (c : Int) (w : Int64) (n : Nat) (seen : List Nat) : It := (33, n, c, 0, w, seen)
abbrev IneedK : It := (34, 0, 0, 0, 0, [])
abbrev ItyD (c : Int) (w : Int64) (seen : List Nat) : It := (35, 0, c, 0, w, seen)
abbrev IsetN (w : Int64) : It := (36, 0, 0, 0, w, [])
abbrev IcalledH (m : Nat) (sc : Int) (w : Int64) : It := (37, m, sc, 0, w, [])
abbrev IwordH (m : Nat) (sc : Int) (w : Int64) : It := (38, m, sc, 0, w, [])
abbrev IrankN (m : Nat) (sc : Int) (w : Int64) (l : List Nat) : It := (39, m, sc, 0, w, l)
abbrev IwhenS (m : Nat) (sc : Int) (w : Int64) (l : List Nat) : It := (40, m, sc, 0, w, l)
abbrev IwhenN (m : Nat) (sc : Int) (w : Int64) (l : List Nat) : It := (41, m, sc, 0, w, l)
abbrev Iem (o : Nat) : It := (42, o, 0, 0, 0, [])
abbrev Ipk1 (d : Nat) : It := (43, d, 0, 0, 0, [])
abbrev Ipk2 (d i : Nat) : It := (44, d, 0, 0, 0, [i])
abbrev Ipk3 (i : Nat) : It := (45, i, 0, 0, 0, [])
abbrev IofN (d : Nat) : It := (46, d, 0, 0, 0, [])
abbrev IofE (v m : Nat) : It := (47, v, 0, 0, 0, [m])
abbrev IfailN : It := (48, 0, 0, 0, 0, [])
abbrev IwrN (f m : Nat) : It := (49, f, 0, 0, 0, [m])
/-- the reader's tables: numbers (0 position, 1 needs, 2 opened, 3 closed, 4 where), of the BOOK's content: 10 + i a setting's value, 30 + t a type's set, 60 + 8 * c .. a component's set, scope, called, rank, when, its number, needs, 300 + 32 * c + 4 * j .. a need's type, kind, called), names (0 types, 1 settings, 2 components, 3 methods, 4 words), wraps, methods told -/
abbrev St := (Nat → Nat) × (Nat → List Int64) × List (Nat × Bool) × List Nat
abbrev Tk := (Nat → Int) × (Nat → Int64) × (Nat → Int)
abbrev Cf := (St × List It) ⊕ (Int ⊕ St)
abbrev Crun (s : St) (k : List It) : Cf := .inl (s, k)
abbrev Cbad (f : Int) : Cf := .inr (.inl f)
abbrev Cdone (s : St) : Cf := .inr (.inr s)
def upB (f : Nat → List Int64) (t : Nat) (w : Int64) : Nat → List Int64 := fun k => if k = t then f k ++ [w] else f k
def sN (s : St) (i v : Nat) : St := (upN s.1 i v, s.2)
def sA (s : St) (i : Nat) (w : Int64) : St := (s.1, upB s.2.1 i w, s.2.2)
def sW (s : St) (x : Nat × Bool) : St := (s.1, s.2.1, s.2.2.1 ++ [x], s.2.2.2)
def sT (s : St) (l : List Nat) : St := (s.1, s.2.1, s.2.2.1, l)
def fndI (l : List Int64) (w : Int64) : Option Nat := l.findIdx? (fun x => x == w)
def nx (s : St) (n : Nat) : St := sN s 0 (s.1 0 + n)
/-- numbers held as lengths of lists: 5 how many orders, 100 + 32 * c + m where a METHOD's E begins, + 30 opened's, + 31 closed's (one more than that), 900 + 8 * w .. a wrap's type, method, number, phase, start, 2000 + 3 * i .. an order -/
def nL (s : St) (j : Nat) : Nat := (s.2.1 j).length
def sLl (s : St) (j : Nat) (l : List Int64) : St := (s.1, (fun k => if k = j then l else s.2.1 k), s.2.2)
abbrev sL (s : St) (j n : Nat) : St := sLl s j (List.replicate n (0 : Int64))
def cl (s : St) : Nat := nL s 5
def emL (s : St) (o : Nat) (l : List Int64) (y : Nat) : St := sL (sLl (sL (sL s 5 (cl s + 1)) (2000 + 3 * cl s) o) (2001 + 3 * cl s) l) (2002 + 3 * cl s) y
abbrev emS (s : St) (o x y : Nat) : St := emL s o (List.replicate x (0 : Int64)) y
def ptS (s : St) (i x : Nat) : St := sL s (2001 + 3 * i) x
/-- a PART begins -/
def bgS (s : St) : St := emS (nx s 1) 1 0 0
def wrS (s : St) (m : Nat) (a : Int) (l : List Nat) : St := (s.1, (fun k => if 900 + 8 * s.2.2.1.length ≤ k ∧ k < 908 + 8 * s.2.2.1.length then List.replicate (([l.getD 0 0, m, l.getD 1 0, a.toNat, l.getD 2 0] : List Nat).getD (k - (900 + 8 * s.2.2.1.length)) 0) (0 : Int64) else s.2.1 k), s.2.2.1 ++ [(m, decide (a = 1))], s.2.2.2)
def fl (T : Tk) (s : St) (c : Int) : Cf := Cbad (c + 16 * T.2.2 (s.1 0))
def isTold (s : St) (w : Int64) : Bool := (fndI (s.2.1 0) w).isSome || (fndI (s.2.1 1) w).isSome || (fndI (s.2.1 2) w).isSome
abbrev bgP (T : Tk) (s : St) : Prop := T.1 (s.1 0) = 2 ∨ T.1 (s.1 0) = 143 ∨ T.1 (s.1 0) = 40 ∨ T.1 (s.1 0) = 45 ∨ T.1 (s.1 0) = 144 ∨ T.1 (s.1 0) = 130 ∨ T.1 (s.1 0) = 145 ∨ (T.1 (s.1 0) = 146 ∧ (s.1 4) = 0) ∨ (T.1 (s.1 0) = 147 ∧ (s.1 4) = 2)
def nbrW (T : Tk) (s : St) (j : Nat) (k : Nat × St → Cf) : Cf := match fndI (s.2.1 j) (T.2.1 (s.1 0)) with | some f => k (f, nx s 1) | none => if 20 ≤ (s.2.1 j).length then fl T s 5 else k ((s.2.1 j).length, sA (nx s 1) j (T.2.1 (s.1 0)))
def mthW (T : Tk) (s : St) (j : Nat) (k : Nat × St → Cf) : Cf := if T.1 (s.1 0) ≠ 3 then fl T s 1 else nbrW T s j k
def mTold (s : St) (w : Int64) : Bool := match fndI (s.2.1 3) w with | some f => s.2.2.2.contains f | none => false
def mthN (T : Tk) (s : St) (k : Nat × St → Cf) : Cf := if T.1 (s.1 0) = 3 ∧ mTold s (T.2.1 (s.1 0)) = true then fl T s 3 else mthW T s 3 k
def arounds (l : List (Nat × Bool)) (f : Nat) : Nat := (l.filter (fun x => x.1 == f && x.2)).length
def newN (T : Tk) (s : St) (k : Int64 → Cf) : Cf := if T.1 (s.1 0) ≠ 3 then fl T s 1 else if isTold s (T.2.1 (s.1 0)) then fl T s 3 else k (T.2.1 (s.1 0))
def look (T : Tk) (s : St) (l : List Int64) (k : Nat → Cf) : Cf := if T.1 (s.1 0) ≠ 3 then fl T s 1 else match fndI l (T.2.1 (s.1 0)) with | none => fl T s 2 | some f => k f
def partW (T : Tk) (s : St) (d : Nat) (k : List It) : Cf :=
  if T.1 (s.1 0) = 2 then Crun (emL (bgS s) 2 [T.2.1 (s.1 0)] 0) k
  else if T.1 (s.1 0) = 143 then Crun (bgS s) (Iem 3 :: k)
  else if T.1 (s.1 0) = 40 then Crun (bgS s) (Iexpr (d + 1) :: Itake 41 :: k)
  else if T.1 (s.1 0) = 45 then Crun (bgS s) (Ipart (d + 1) :: Iem 4 :: k)
  else if T.1 (s.1 0) = 144 then Crun (bgS s) (IfailN :: k)
  else if T.1 (s.1 0) = 130 then Crun (bgS s) (Isetting :: k)
  else if T.1 (s.1 0) = 145 then Crun (bgS s) (Itake 40 :: Iexpr (d + 1) :: Itake 44 :: Ipk1 (d + 1) :: k)
  else if T.1 (s.1 0) = 146 then Crun (bgS s) (IofN (d + 1) :: k)
  else Crun (bgS s) (Itake 40 :: Iexpr (d + 1) :: Itake 41 :: Iem 15 :: k)
def stmtW (T : Tk) (s : St) (k : List It) : Cf :=
  if T.1 (s.1 0) = 0 then Cdone s
  else if T.1 (s.1 0) = 128 then (if 24 ≤ (s.2.1 0).length then fl T s 5 else Crun (nx s 1) (InewType :: k))
  else if T.1 (s.1 0) = 130 then (if 12 ≤ (s.2.1 1).length then fl T s 5 else Crun (nx s 1) (InewSet :: k))
  else if T.1 (s.1 0) = 131 then (if 24 ≤ (s.2.1 2).length then fl T s 5 else Crun (nx s 1) (InewComp :: k))
  else if T.1 (s.1 0) = 136 then (if 12 ≤ s.2.2.1.length then fl T s 5 else Crun (nx s 1) (IwrapType :: k))
  else fl T s 1
def memberW (T : Tk) (s : St) (k : List It) : Cf :=
  if T.1 (s.1 0) = 125 then Crun (nx s 1) (Istmt :: k)
  else if T.1 (s.1 0) = 137 then (if 8 ≤ (s.1 1) then fl T s 5 else Crun (nx s 1) (IneedK :: k))
  else if T.1 (s.1 0) = 140 then (if (s.1 2) = 1 then fl T s 1 else Crun (sL (nx (sN s 2 1) 1) (100 + 32 * ((s.2.1 2).length - 1) + 30) (cl s + 1)) (Iexpr 0 :: Iem 0 :: Itake 59 :: Imember :: k))
  else if T.1 (s.1 0) = 141 then (if (s.1 3) = 1 then fl T s 1 else Crun (sL (nx (sN s 3 1) 1) (100 + 32 * ((s.2.1 2).length - 1) + 31) (cl s + 1)) (Iexpr 0 :: Iem 0 :: Itake 59 :: Imember :: k))
  else if T.1 (s.1 0) = 142 then Crun (nx s 1) (ImethN :: Iexpr 0 :: Iem 0 :: Itake 59 :: Imember :: k)
  else fl T s 1
/-- the types' sets together -/
def msk (f : Nat → Nat) (l : List Nat) : Nat := l.foldr (fun t m => f (30 + t) ||| m) 0
def tyS (s : St) (w : Int64) (seen : List Nat) : St := (upN s.1 (30 + (s.2.1 0).length) (msk s.1 seen ||| 2 ^ (s.2.1 0).length), upB s.2.1 0 w, s.2.2)
def seS (s : St) (w : Int64) (v : Nat) : St := (upN s.1 (10 + (s.2.1 1).length) v, upB s.2.1 1 w, s.2.2)
def hvl (m sc : Nat) (l : List Nat) : Nat → Nat
  | 0 => m
  | 1 => sc
  | 2 => l.getD 3 0
  | 3 => l.getD 2 0
  | 4 => l.getD 1 0
  | 5 => l.getD 0 0
  | _ => 0
def hdr (f : Nat → Nat) (c m sc : Nat) (l : List Nat) : Nat → Nat := fun i => if 60 + 8 * c ≤ i ∧ i < 68 + 8 * c then hvl m sc l (i - (60 + 8 * c)) else f i
def nmS (s : St) (m : Nat) (sc : Int) (w : Int64) (l : List Nat) : St := (hdr s.1 (s.2.1 2).length m sc.toNat l, upB s.2.1 2 w, s.2.2)
def ndf (g : Nat → Nat) (c a f ca : Nat) : Nat → Nat := fun i => if i = 1 ∨ i = 66 + 8 * c then g 1 + 1 else if i = 300 + 32 * c + 4 * g 1 then f else if i = 301 + 32 * c + 4 * g 1 then a else if i = 302 + 32 * c + 4 * g 1 then ca else g i
def ndS (s : St) (a : Int) (f ca : Nat) : St := (ndf s.1 ((s.2.1 2).length - 1) a.toNat f ca, s.2)
/-- a number within bounds -/
def numW (T : Tk) (s : St) (lo hi : Int) (k : Nat → Cf) : Cf := if T.1 (s.1 0) ≠ 2 then fl T s 1 else if (T.2.1 (s.1 0)).toInt < lo ∨ hi < (T.2.1 (s.1 0)).toInt then fl T s 4 else k (T.2.1 (s.1 0)).toInt.toNat
def scopeS (s : St) : St := sT (sN (sN (sN (sN (nx s 1) 1 0) 2 0) 3 0) 4 0) []
def itW (T : Tk) (s : St) (k : List It) (i : It) : Cf := match i with
  | (0, _, c, _, _, _) => if T.1 (s.1 0) = c then Crun (nx s 1) k else fl T s 1
  | (1, d, _, _, _, _) => Crun s (Isum d :: Icmp d :: k)
  | (2, d, _, _, _, _) => if T.1 (s.1 0) = 60 ∨ T.1 (s.1 0) = 61 then Crun (nx s 1) (Isum d :: Iem (if T.1 (s.1 0) = 60 then 8 else 9) :: k) else Crun s k
  | (3, d, _, _, _, _) => Crun s (Iprod d :: IsumR d :: k)
  | (4, d, _, _, _, _) => if T.1 (s.1 0) = 43 ∨ T.1 (s.1 0) = 45 then Crun (nx s 1) (Iprod d :: Iem (if T.1 (s.1 0) = 43 then 6 else 7) :: IsumR d :: k) else Crun s k
  | (5, d, _, _, _, _) => Crun s (Ipart d :: IprodR d :: k)
  | (6, d, _, _, _, _) => if T.1 (s.1 0) = 42 then Crun (nx s 1) (Ipart d :: Iem 5 :: IprodR d :: k) else Crun s k
  | (7, d, _, _, _, _) => if ¬ bgP T s then fl T s 1 else if 8 ≤ d then fl T s 5 else partW T s d k
  | (8, _, lo, hi, _, _) => if T.1 (s.1 0) ≠ 2 then fl T s 1 else if (T.2.1 (s.1 0)).toInt < lo ∨ hi < (T.2.1 (s.1 0)).toInt then fl T s 4 else Crun (nx s 1) k
  | (9, _, _, _, _, _) => look T s (s.2.1 1) (fun f => Crun (emS (nx s 1) 11 f 0) k)
  | (10, d, v, _, _, _) => mthW T s 3 (fun x => Crun x.2 (Itake 40 :: Iexpr d :: Itake 41 :: IofE v.toNat x.1 :: k))
  | (11, f, a, _, _, _) => mthW T s 4 (fun x => Crun x.2 (Itake 59 :: IaddNeed a f (x.1 + 1) :: Imember :: k))
  | (12, _, _, _, _, _) => stmtW T s k
  | (13, _, _, _, _, _) => newN T s (fun w => Crun (nx s 1) (Ilike w :: k))
  | (14, n, c, _, w, seen) => look T s (s.2.1 0) (fun f => if f ∈ seen then fl T s 3 else if 6 ≤ n then fl T s 5 else Crun (nx s 1) (Imore c w (n + 1) (f :: seen) :: k))
  | (15, _, _, _, w, seen) => Crun (tyS s w seen) k
  | (16, _, _, _, _, _) => newN T s (fun w => Crun (nx s 1) (IsetN w :: k))
  | (17, v, _, _, w, _) => Crun (seS s w v) k
  | (18, _, _, _, _, _) => newN T s (fun w => Crun (nx s 1) (Itake 132 :: Itypes 1 w 0 [] :: k))
  | (19, _, _, _, w, seen) => if T.1 (s.1 0) < 148 ∨ 151 < T.1 (s.1 0) then fl T s 1 else Crun (scopeS s) (IcalledH (msk s.1 seen) (T.1 (s.1 0) - 148) w :: k)
  | (20, f, a, _, _, _) => if T.1 (s.1 0) = 133 then Crun (nx s 1) (Iword a f :: k) else Crun s (Itake 59 :: IaddNeed a f 0 :: Imember :: k)
  | (21, m, sc, _, w, l) => if T.1 (s.1 0) = 134 then Crun (nx s 1) (IrankN m sc w l :: k) else Crun s (IwhenI m sc w (0 :: l) :: k)
  | (22, m, sc, _, w, l) => if T.1 (s.1 0) = 135 then Crun (nx s 1) (IwhenS m sc w l :: k) else Crun s (Itake 123 :: IaddNm m sc w (0 :: 0 :: l) :: Imember :: k)
  | (23, m, sc, _, w, l) => Crun (nmS s m sc w l) k
  | (24, _, _, _, _, _) => memberW T s k
  | (25, _, a, _, _, _) => look T s (s.2.1 0) (fun f => if a = 2 then Crun (nx s 1) (Itake 59 :: IaddNeed a f 0 :: Imember :: k) else Crun (nx s 1) (Icalled a f :: k))
  | (26, f, a, _, _, l) => Crun (ndS s a f (l.headD 0)) k
  | (27, _, _, _, _, _) => mthN T s (fun x => Crun (sL (sT x.2 (x.1 :: s.2.2.2)) (100 + 32 * ((s.2.1 2).length - 1) + x.1) (cl s + 1)) k)
  | (28, _, _, _, _, _) => look T s (s.2.1 0) (fun f => Crun (nx s 1) (Itake 46 :: IwrapMeth f :: k))
  | (29, f, _, _, _, _) => mthW T s 3 (fun x => Crun x.2 (IwrN f x.1 :: k))
  | (30, f, _, _, _, l) => if T.1 (s.1 0) < 152 ∨ 155 < T.1 (s.1 0) then fl T s 1 else if T.1 (s.1 0) = 153 ∧ 2 ≤ arounds s.2.2.1 f then fl T s 5 else Crun (sN (nx s 1) 4 (if T.1 (s.1 0) = 153 then 2 else 1)) (Iexpr 0 :: Iem 0 :: Itake 59 :: IaddWr f (T.1 (s.1 0) - 152) (l ++ [cl s]) :: Istmt :: k)
  | (31, f, a, _, _, l) => Crun (wrS s f a l) k
  | (32, _, _, _, w, _) => if T.1 (s.1 0) = 129 then Crun (nx s 1) (Itypes 0 w 0 [] :: k) else Crun s (Itake 59 :: IaddTy w [] :: Istmt :: k)
  | (33, n, c, _, w, seen) => if T.1 (s.1 0) = 44 then Crun (nx s 1) (Itypes c w n seen :: k) else Crun s (ItyD c w seen :: k)
  | (34, _, _, _, _, _) => if T.1 (s.1 0) = 138 then Crun (nx s 1) (IneedT 1 :: k) else if T.1 (s.1 0) = 139 then Crun (nx s 1) (IneedT 2 :: k) else Crun s (IneedT 0 :: k)
  | (35, _, c, _, w, seen) => if c = 0 then Crun s (Itake 59 :: IaddTy w seen :: Istmt :: k) else Crun s (Iscope w seen :: k)
  | (36, _, _, _, w, _) => numW T s 0 999999999 (fun v => Crun (nx s 1) (Itake 59 :: IaddSe w v :: Istmt :: k))
  | (37, m, sc, _, w, _) => if T.1 (s.1 0) = 133 then Crun (nx s 1) (IwordH m sc w :: k) else Crun s (Irank m sc w [0] :: k)
  | (38, m, sc, _, w, _) => mthW T s 4 (fun x => Crun x.2 (Irank m sc w [x.1 + 1] :: k))
  | (39, m, sc, _, w, l) => numW T s 0 9 (fun v => Crun (nx s 1) (IwhenI m sc w (v :: l) :: k))
  | (40, m, sc, _, w, l) => look T s (s.2.1 1) (fun f => Crun (nx s 1) (IwhenN m sc w ((f + 1) :: l) :: k))
  | (41, m, sc, _, w, l) => numW T s 0 999999999 (fun v => Crun (nx s 1) (Itake 123 :: IaddNm m sc w (v :: l) :: Imember :: k))
  | (42, o, _, _, _, _) => Crun (emS s o 0 0) k
  | (43, d, _, _, _, _) => Crun (emS s 12 0 0) (Iexpr d :: Itake 44 :: Ipk2 d (cl s) :: k)
  | (44, d, _, _, _, l) => Crun (ptS (emS s 13 0 0) (l.headD 0) (cl (emS s 13 0 0))) (Iexpr d :: Itake 41 :: Ipk3 (cl s) :: k)
  | (45, i, _, _, _, _) => Crun (ptS s i (cl s)) k
  | (46, d, _, _, _, _) => numW T s 0 (((s.1 1 : Nat) : Int) - 1) (fun v => Crun (nx s 1) (Itake 46 :: IofM d v :: k))
  | (47, v, _, _, _, l) => Crun (emS s 14 v (l.headD 0)) k
  | (48, _, _, _, _, _) => numW T s 1 9 (fun v => Crun (emS (nx s 1) 10 v 0) k)
  | (49, f, _, _, _, l) => numW T s 0 99 (fun v => Crun (nx s 1) (Iphase (l.headD 0) [f, v] :: k))
  | _ => Crun s k
def mst (T : Tk) : Cf → Cf
  | .inl (s, []) => .inl (s, [])
  | .inl (s, i :: k) => itW T s k i
  | .inr c => .inr c
def mrun (T : Tk) : Nat → Cf → Cf
  | 0, c => c
  | n + 1, c => mrun T n (mst T c)
theorem mrun_s (T : Tk) (n : Nat) (c : Cf) : mrun T (n + 1) c = mrun T n (mst T c) := rfl
theorem mrun_add (T : Tk) (n : Nat) : ∀ (m : Nat) (c : Cf), mrun T (n + m) c = mrun T m (mrun T n c) := by
  induction n with
  | zero => intro m c; rw [Nat.zero_add]; rfl
  | succ n ih => intro m c; rw [Nat.succ_add, mrun_s, ih, mrun_s]
theorem mrun_bad (T : Tk) (f : Int) (n : Nat) : mrun T n (Cbad f) = Cbad f := by
  induction n with
  | zero => rfl
  | succ n ih => rw [mrun_s]; exact ih
theorem mrun_done (T : Tk) (s : St) (n : Nat) : mrun T n (Cdone s) = Cdone s := by
  induction n with
  | zero => rfl
  | succ n ih => rw [mrun_s]; exact ih
def Rc (T : Tk) (a b : Cf) : Prop := ∃ n, mrun T n a = b
theorem Rc.rf {T : Tk} {a : Cf} : Rc T a a := ⟨0, rfl⟩
theorem Rc.st {T : Tk} {a : Cf} : Rc T a (mst T a) := ⟨1, rfl⟩
theorem Rc.tr {T : Tk} {a b c : Cf} (h : Rc T a b) (k : Rc T b c) : Rc T a c := by
  obtain ⟨n, h⟩ := h
  obtain ⟨m, k⟩ := k
  exact ⟨n + m, by rw [mrun_add, h, k]⟩
theorem Rc.one {T : Tk} {a b c : Cf} (e : mst T a = b) (k : Rc T b c) : Rc T a c := Rc.tr ⟨1, e⟩ k
/-- what is at an end is the only end -/
def endC : Cf → Prop
  | .inl _ => False
  | .inr _ => True
theorem mrun_end (T : Tk) {c : Cf} (h : endC c) (n : Nat) : mrun T n c = c := by
  cases c with
  | inl s => exact absurd h (fun q => q)
  | inr s =>
    cases s with
    | inl f => exact mrun_bad T f n
    | inr s => exact mrun_done T s n
theorem Rc.uq {T : Tk} {a b c : Cf} (h : Rc T a b) (k : Rc T a c) (eb : endC b) (ec : endC c) : b = c := by
  obtain ⟨n, h⟩ := h
  obtain ⟨m, k⟩ := k
  rcases Nat.le_total n m with q | q
  · obtain ⟨d, e⟩ := Nat.exists_eq_add_of_le q
    rw [e, mrun_add, h, mrun_end T eb] at k
    exact k
  · obtain ⟨d, e⟩ := Nat.exists_eq_add_of_le q
    rw [e, mrun_add, k, mrun_end T ec] at h
    exact h.symm
/-! its steps -/
section Stp
variable {T : Tk} {s : St} {k : List It}
theorem m_expr (d : Nat) : mst T (Crun s (Iexpr d :: k)) = Crun s (Isum d :: Icmp d :: k) := rfl
theorem m_sum (d : Nat) : mst T (Crun s (Isum d :: k)) = Crun s (Iprod d :: IsumR d :: k) := rfl
theorem m_prod (d : Nat) : mst T (Crun s (Iprod d :: k)) = Crun s (Ipart d :: IprodR d :: k) := rfl
theorem tk_y {c : Int} (h : T.1 (s.1 0) = c) : mst T (Crun s (Itake c :: k)) = Crun (nx s 1) k := if_pos h
theorem tk_n {c : Int} (h : T.1 (s.1 0) ≠ c) : mst T (Crun s (Itake c :: k)) = fl T s 1 := if_neg h
theorem cmp_60 (d : Nat) (h : T.1 (s.1 0) = 60) : mst T (Crun s (Icmp d :: k)) = Crun (nx s 1) (Isum d :: Iem 8 :: k) := (if_pos (Or.inl h)).trans (by rw [if_pos h])
theorem cmp_61 (d : Nat) (h : T.1 (s.1 0) = 61) : mst T (Crun s (Icmp d :: k)) = Crun (nx s 1) (Isum d :: Iem 9 :: k) := (if_pos (Or.inr h)).trans (by rw [if_neg (by rw [h]; decide)])
theorem cmp_n (d : Nat) (h1 : T.1 (s.1 0) ≠ 60) (h2 : T.1 (s.1 0) ≠ 61) : mst T (Crun s (Icmp d :: k)) = Crun s k := if_neg (fun q => q.elim h1 h2)
theorem sumR_43 (d : Nat) (h : T.1 (s.1 0) = 43) : mst T (Crun s (IsumR d :: k)) = Crun (nx s 1) (Iprod d :: Iem 6 :: IsumR d :: k) := (if_pos (Or.inl h)).trans (by rw [if_pos h])
theorem sumR_45 (d : Nat) (h : T.1 (s.1 0) = 45) : mst T (Crun s (IsumR d :: k)) = Crun (nx s 1) (Iprod d :: Iem 7 :: IsumR d :: k) := (if_pos (Or.inr h)).trans (by rw [if_neg (by rw [h]; decide)])
theorem sumR_n (d : Nat) (h1 : T.1 (s.1 0) ≠ 43) (h2 : T.1 (s.1 0) ≠ 45) : mst T (Crun s (IsumR d :: k)) = Crun s k := if_neg (fun q => q.elim h1 h2)
theorem prodR_42 (d : Nat) (h : T.1 (s.1 0) = 42) : mst T (Crun s (IprodR d :: k)) = Crun (nx s 1) (Ipart d :: Iem 5 :: IprodR d :: k) := if_pos h
theorem prodR_n (d : Nat) (h : T.1 (s.1 0) ≠ 42) : mst T (Crun s (IprodR d :: k)) = Crun s k := if_neg h
theorem part_1 (d : Nat) (h : ¬ bgP T s) : mst T (Crun s (Ipart d :: k)) = fl T s 1 := if_pos h
theorem part_5 (d : Nat) (h : bgP T s) (hd : 8 ≤ d) : mst T (Crun s (Ipart d :: k)) = fl T s 5 := (if_neg (fun q => q h)).trans (if_pos hd)
theorem part_w (d : Nat) (h : bgP T s) (hd : ¬ 8 ≤ d) : mst T (Crun s (Ipart d :: k)) = partW T s d k := (if_neg (fun q => q h)).trans (if_neg hd)
theorem pw_2 (d : Nat) (h : bgP T s) (hd : ¬ 8 ≤ d) (c : T.1 (s.1 0) = 2) : mst T (Crun s (Ipart d :: k)) = Crun (emL (bgS s) 2 [T.2.1 (s.1 0)] 0) k := by
  rw [part_w d h hd]; unfold partW; rw [c]; rfl
theorem pw_143 (d : Nat) (h : bgP T s) (hd : ¬ 8 ≤ d) (c : T.1 (s.1 0) = 143) : mst T (Crun s (Ipart d :: k)) = Crun (bgS s) (Iem 3 :: k) := by
  rw [part_w d h hd]; unfold partW; rw [c]; rfl
theorem pw_40 (d : Nat) (h : bgP T s) (hd : ¬ 8 ≤ d) (c : T.1 (s.1 0) = 40) : mst T (Crun s (Ipart d :: k)) = Crun (bgS s) (Iexpr (d + 1) :: Itake 41 :: k) := by
  rw [part_w d h hd]; unfold partW; rw [c]; rfl
theorem pw_45 (d : Nat) (h : bgP T s) (hd : ¬ 8 ≤ d) (c : T.1 (s.1 0) = 45) : mst T (Crun s (Ipart d :: k)) = Crun (bgS s) (Ipart (d + 1) :: Iem 4 :: k) := by
  rw [part_w d h hd]; unfold partW; rw [c]; rfl
theorem pw_144 (d : Nat) (h : bgP T s) (hd : ¬ 8 ≤ d) (c : T.1 (s.1 0) = 144) : mst T (Crun s (Ipart d :: k)) = Crun (bgS s) (IfailN :: k) := by
  rw [part_w d h hd]; unfold partW; rw [c]; rfl
theorem pw_130 (d : Nat) (h : bgP T s) (hd : ¬ 8 ≤ d) (c : T.1 (s.1 0) = 130) : mst T (Crun s (Ipart d :: k)) = Crun (bgS s) (Isetting :: k) := by
  rw [part_w d h hd]; unfold partW; rw [c]; rfl
theorem pw_145 (d : Nat) (h : bgP T s) (hd : ¬ 8 ≤ d) (c : T.1 (s.1 0) = 145) : mst T (Crun s (Ipart d :: k)) = Crun (bgS s) (Itake 40 :: Iexpr (d + 1) :: Itake 44 :: Ipk1 (d + 1) :: k) := by
  rw [part_w d h hd]; unfold partW; rw [c]; rfl
theorem pw_146 (d : Nat) (h : bgP T s) (hd : ¬ 8 ≤ d) (c : T.1 (s.1 0) = 146) : mst T (Crun s (Ipart d :: k)) = Crun (bgS s) (IofN (d + 1) :: k) := by
  rw [part_w d h hd]; unfold partW; rw [c]; rfl
theorem pw_147 (d : Nat) (h : bgP T s) (hd : ¬ 8 ≤ d) (c : T.1 (s.1 0) = 147) : mst T (Crun s (Ipart d :: k)) = Crun (bgS s) (Itake 40 :: Iexpr (d + 1) :: Itake 41 :: Iem 15 :: k) := by
  rw [part_w d h hd]; unfold partW; rw [c]; rfl
theorem se_y {f : Nat} (h : ∀ kk, look T s (s.2.1 1) kk = kk f) : mst T (Crun s (Isetting :: k)) = Crun (emS (nx s 1) 11 f 0) k := h _
theorem se_b {F : Int} (h : ∀ kk, look T s (s.2.1 1) kk = Cbad F) : mst T (Crun s (Isetting :: k)) = Cbad F := h _
theorem me_y {d v : Nat} {x : Nat × St} (h : ∀ kk, mthW T s 3 kk = kk x) : mst T (Crun s (IofM d v :: k)) = Crun x.2 (Itake 40 :: Iexpr d :: Itake 41 :: IofE v x.1 :: k) := (show mthW T s 3 (fun x => Crun x.2 (Itake 40 :: Iexpr d :: Itake 41 :: IofE v x.1 :: k)) = _ from h _)
theorem me_b {d v : Nat} {F : Int} (h : ∀ kk, mthW T s 3 kk = Cbad F) : mst T (Crun s (IofM d v :: k)) = Cbad F := (show mthW T s 3 (fun x => Crun x.2 (Itake 40 :: Iexpr d :: Itake 41 :: IofE v x.1 :: k)) = _ from h _)
theorem m_em (o : Nat) : mst T (Crun s (Iem o :: k)) = Crun (emS s o 0 0) k := rfl
theorem m_pk1 (d : Nat) : mst T (Crun s (Ipk1 d :: k)) = Crun (emS s 12 0 0) (Iexpr d :: Itake 44 :: Ipk2 d (cl s) :: k) := rfl
theorem m_pk2 (d i : Nat) : mst T (Crun s (Ipk2 d i :: k)) = Crun (ptS (emS s 13 0 0) i (cl (emS s 13 0 0))) (Iexpr d :: Itake 41 :: Ipk3 (cl s) :: k) := rfl
theorem m_pk3 (i : Nat) : mst T (Crun s (Ipk3 i :: k)) = Crun (ptS s i (cl s)) k := rfl
theorem m_ofE (v m : Nat) : mst T (Crun s (IofE v m :: k)) = Crun (emS s 14 v m) k := rfl
theorem num_y {lo hi : Int} (h1 : T.1 (s.1 0) = 2) (h2 : lo ≤ (T.2.1 (s.1 0)).toInt) (h3 : (T.2.1 (s.1 0)).toInt ≤ hi) (kk : Nat → Cf) : numW T s lo hi kk = kk (T.2.1 (s.1 0)).toInt.toNat := (if_neg (fun q => q h1)).trans (if_neg (fun q => by omega))
theorem num_1 {lo hi : Int} (h : T.1 (s.1 0) ≠ 2) (kk : Nat → Cf) : numW T s lo hi kk = fl T s 1 := if_pos h
theorem num_4 {lo hi : Int} (h1 : T.1 (s.1 0) = 2) (h2 : (T.2.1 (s.1 0)).toInt < lo ∨ hi < (T.2.1 (s.1 0)).toInt) (kk : Nat → Cf) : numW T s lo hi kk = fl T s 4 := (if_neg (fun q => q h1)).trans (if_pos h2)
theorem vo_y {d : Nat} (h1 : T.1 (s.1 0) = 2) (h2 : 0 ≤ (T.2.1 (s.1 0)).toInt) (h3 : (T.2.1 (s.1 0)).toInt ≤ (((s.1 1 : Nat) : Int) - 1)) : mst T (Crun s (IofN d :: k)) = Crun (nx s 1) (Itake 46 :: IofM d (T.2.1 (s.1 0)).toInt.toNat :: k) := (show numW T s 0 (((s.1 1 : Nat) : Int) - 1) (fun v => Crun (nx s 1) (Itake 46 :: IofM d v :: k)) = _ from num_y h1 h2 h3 _)
theorem vo_1 {d : Nat} (h : T.1 (s.1 0) ≠ 2) : mst T (Crun s (IofN d :: k)) = fl T s 1 := (show numW T s 0 (((s.1 1 : Nat) : Int) - 1) (fun v => Crun (nx s 1) (Itake 46 :: IofM d v :: k)) = _ from num_1 h _)
theorem vo_4 {d : Nat} (h1 : T.1 (s.1 0) = 2) (h2 : (T.2.1 (s.1 0)).toInt < 0 ∨ (((s.1 1 : Nat) : Int) - 1) < (T.2.1 (s.1 0)).toInt) : mst T (Crun s (IofN d :: k)) = fl T s 4 := (show numW T s 0 (((s.1 1 : Nat) : Int) - 1) (fun v => Crun (nx s 1) (Itake 46 :: IofM d v :: k)) = _ from num_4 h1 h2 _)
theorem vf_y (h1 : T.1 (s.1 0) = 2) (h2 : 1 ≤ (T.2.1 (s.1 0)).toInt) (h3 : (T.2.1 (s.1 0)).toInt ≤ 9) : mst T (Crun s (IfailN :: k)) = Crun (emS (nx s 1) 10 (T.2.1 (s.1 0)).toInt.toNat 0) k := (show numW T s 1 9 (fun v => Crun (emS (nx s 1) 10 v 0) k) = _ from num_y h1 h2 h3 _)
theorem vf_1 (h : T.1 (s.1 0) ≠ 2) : mst T (Crun s (IfailN :: k)) = fl T s 1 := (show numW T s 1 9 (fun v => Crun (emS (nx s 1) 10 v 0) k) = _ from num_1 h _)
theorem vf_4 (h1 : T.1 (s.1 0) = 2) (h2 : (T.2.1 (s.1 0)).toInt < 1 ∨ 9 < (T.2.1 (s.1 0)).toInt) : mst T (Crun s (IfailN :: k)) = fl T s 4 := (show numW T s 1 9 (fun v => Crun (emS (nx s 1) 10 v 0) k) = _ from num_4 h1 h2 _)
theorem vn_y {f m : Nat} (h1 : T.1 (s.1 0) = 2) (h2 : 0 ≤ (T.2.1 (s.1 0)).toInt) (h3 : (T.2.1 (s.1 0)).toInt ≤ 99) : mst T (Crun s (IwrN f m :: k)) = Crun (nx s 1) (Iphase m [f, (T.2.1 (s.1 0)).toInt.toNat] :: k) := (show numW T s 0 99 (fun v => Crun (nx s 1) (Iphase m [f, v] :: k)) = _ from num_y h1 h2 h3 _)
theorem vn_1 {f m : Nat} (h : T.1 (s.1 0) ≠ 2) : mst T (Crun s (IwrN f m :: k)) = fl T s 1 := (show numW T s 0 99 (fun v => Crun (nx s 1) (Iphase m [f, v] :: k)) = _ from num_1 h _)
theorem vn_4 {f m : Nat} (h1 : T.1 (s.1 0) = 2) (h2 : (T.2.1 (s.1 0)).toInt < 0 ∨ 99 < (T.2.1 (s.1 0)).toInt) : mst T (Crun s (IwrN f m :: k)) = fl T s 4 := (show numW T s 0 99 (fun v => Crun (nx s 1) (Iphase m [f, v] :: k)) = _ from num_4 h1 h2 _)
theorem vs_y {w : Int64} (h1 : T.1 (s.1 0) = 2) (h2 : 0 ≤ (T.2.1 (s.1 0)).toInt) (h3 : (T.2.1 (s.1 0)).toInt ≤ 999999999) : mst T (Crun s (IsetN w :: k)) = Crun (nx s 1) (Itake 59 :: IaddSe w (T.2.1 (s.1 0)).toInt.toNat :: Istmt :: k) := (show numW T s 0 999999999 (fun v => Crun (nx s 1) (Itake 59 :: IaddSe w v :: Istmt :: k)) = _ from num_y h1 h2 h3 _)
theorem vs_1 {w : Int64} (h : T.1 (s.1 0) ≠ 2) : mst T (Crun s (IsetN w :: k)) = fl T s 1 := (show numW T s 0 999999999 (fun v => Crun (nx s 1) (Itake 59 :: IaddSe w v :: Istmt :: k)) = _ from num_1 h _)
theorem vs_4 {w : Int64} (h1 : T.1 (s.1 0) = 2) (h2 : (T.2.1 (s.1 0)).toInt < 0 ∨ 999999999 < (T.2.1 (s.1 0)).toInt) : mst T (Crun s (IsetN w :: k)) = fl T s 4 := (show numW T s 0 999999999 (fun v => Crun (nx s 1) (Itake 59 :: IaddSe w v :: Istmt :: k)) = _ from num_4 h1 h2 _)
theorem vr_y {m : Nat} {sc : Int} {w : Int64} {l : List Nat} (h1 : T.1 (s.1 0) = 2) (h2 : 0 ≤ (T.2.1 (s.1 0)).toInt) (h3 : (T.2.1 (s.1 0)).toInt ≤ 9) : mst T (Crun s (IrankN m sc w l :: k)) = Crun (nx s 1) (IwhenI m sc w ((T.2.1 (s.1 0)).toInt.toNat :: l) :: k) := (show numW T s 0 9 (fun v => Crun (nx s 1) (IwhenI m sc w (v :: l) :: k)) = _ from num_y h1 h2 h3 _)
theorem vr_1 {m : Nat} {sc : Int} {w : Int64} {l : List Nat} (h : T.1 (s.1 0) ≠ 2) : mst T (Crun s (IrankN m sc w l :: k)) = fl T s 1 := (show numW T s 0 9 (fun v => Crun (nx s 1) (IwhenI m sc w (v :: l) :: k)) = _ from num_1 h _)
theorem vr_4 {m : Nat} {sc : Int} {w : Int64} {l : List Nat} (h1 : T.1 (s.1 0) = 2) (h2 : (T.2.1 (s.1 0)).toInt < 0 ∨ 9 < (T.2.1 (s.1 0)).toInt) : mst T (Crun s (IrankN m sc w l :: k)) = fl T s 4 := (show numW T s 0 9 (fun v => Crun (nx s 1) (IwhenI m sc w (v :: l) :: k)) = _ from num_4 h1 h2 _)
theorem vw_y {m : Nat} {sc : Int} {w : Int64} {l : List Nat} (h1 : T.1 (s.1 0) = 2) (h2 : 0 ≤ (T.2.1 (s.1 0)).toInt) (h3 : (T.2.1 (s.1 0)).toInt ≤ 999999999) : mst T (Crun s (IwhenN m sc w l :: k)) = Crun (nx s 1) (Itake 123 :: IaddNm m sc w ((T.2.1 (s.1 0)).toInt.toNat :: l) :: Imember :: k) := (show numW T s 0 999999999 (fun v => Crun (nx s 1) (Itake 123 :: IaddNm m sc w (v :: l) :: Imember :: k)) = _ from num_y h1 h2 h3 _)
theorem vw_1 {m : Nat} {sc : Int} {w : Int64} {l : List Nat} (h : T.1 (s.1 0) ≠ 2) : mst T (Crun s (IwhenN m sc w l :: k)) = fl T s 1 := (show numW T s 0 999999999 (fun v => Crun (nx s 1) (Itake 123 :: IaddNm m sc w (v :: l) :: Imember :: k)) = _ from num_1 h _)
theorem vw_4 {m : Nat} {sc : Int} {w : Int64} {l : List Nat} (h1 : T.1 (s.1 0) = 2) (h2 : (T.2.1 (s.1 0)).toInt < 0 ∨ 999999999 < (T.2.1 (s.1 0)).toInt) : mst T (Crun s (IwhenN m sc w l :: k)) = fl T s 4 := (show numW T s 0 999999999 (fun v => Crun (nx s 1) (Itake 123 :: IaddNm m sc w (v :: l) :: Imember :: k)) = _ from num_4 h1 h2 _)
theorem calledH_y (m : Nat) (sc : Int) (w : Int64) (h : T.1 (s.1 0) = 133) : mst T (Crun s (IcalledH m sc w :: k)) = Crun (nx s 1) (IwordH m sc w :: k) := if_pos h
theorem calledH_n (m : Nat) (sc : Int) (w : Int64) (h : T.1 (s.1 0) ≠ 133) : mst T (Crun s (IcalledH m sc w :: k)) = Crun s (Irank m sc w [0] :: k) := if_neg h
theorem wh_y {x : Nat × St} {m : Nat} {sc : Int} {w : Int64} (h : ∀ kk, mthW T s 4 kk = kk x) : mst T (Crun s (IwordH m sc w :: k)) = Crun x.2 (Irank m sc w [x.1 + 1] :: k) := h _
theorem wh_b {F : Int} {m : Nat} {sc : Int} {w : Int64} (h : ∀ kk, mthW T s 4 kk = Cbad F) : mst T (Crun s (IwordH m sc w :: k)) = Cbad F := h _
theorem wS_y {f m : Nat} {sc : Int} {w : Int64} {l : List Nat} (h : ∀ kk, look T s (s.2.1 1) kk = kk f) : mst T (Crun s (IwhenS m sc w l :: k)) = Crun (nx s 1) (IwhenN m sc w ((f + 1) :: l) :: k) := h _
theorem wS_b {F : Int} {m : Nat} {sc : Int} {w : Int64} {l : List Nat} (h : ∀ kk, look T s (s.2.1 1) kk = Cbad F) : mst T (Crun s (IwhenS m sc w l :: k)) = Cbad F := h _
theorem wo_y {x : Nat × St} {a : Int} {f : Nat} (h : ∀ kk, mthW T s 4 kk = kk x) : mst T (Crun s (Iword a f :: k)) = Crun x.2 (Itake 59 :: IaddNeed a f (x.1 + 1) :: Imember :: k) := h _
theorem wo_b {F : Int} {a : Int} {f : Nat} (h : ∀ kk, mthW T s 4 kk = Cbad F) : mst T (Crun s (Iword a f :: k)) = Cbad F := h _
theorem nt_y {w : Int64} (h : ∀ kk, newN T s kk = kk w) : mst T (Crun s (InewType :: k)) = Crun (nx s 1) (Ilike w :: k) := (show newN T s (fun w => Crun (nx s 1) (Ilike w :: k)) = _ from h _)
theorem nt_b {F : Int} (h : ∀ kk, newN T s kk = Cbad F) : mst T (Crun s (InewType :: k)) = Cbad F := (show newN T s (fun w => Crun (nx s 1) (Ilike w :: k)) = _ from h _)
theorem ns_y {w : Int64} (h : ∀ kk, newN T s kk = kk w) : mst T (Crun s (InewSet :: k)) = Crun (nx s 1) (IsetN w :: k) := (show newN T s (fun w => Crun (nx s 1) (IsetN w :: k)) = _ from h _)
theorem ns_b {F : Int} (h : ∀ kk, newN T s kk = Cbad F) : mst T (Crun s (InewSet :: k)) = Cbad F := (show newN T s (fun w => Crun (nx s 1) (IsetN w :: k)) = _ from h _)
theorem nc_y {w : Int64} (h : ∀ kk, newN T s kk = kk w) : mst T (Crun s (InewComp :: k)) = Crun (nx s 1) (Itake 132 :: Itypes 1 w 0 [] :: k) := (show newN T s (fun w => Crun (nx s 1) (Itake 132 :: Itypes 1 w 0 [] :: k)) = _ from h _)
theorem nc_b {F : Int} (h : ∀ kk, newN T s kk = Cbad F) : mst T (Crun s (InewComp :: k)) = Cbad F := (show newN T s (fun w => Crun (nx s 1) (Itake 132 :: Itypes 1 w 0 [] :: k)) = _ from h _)
theorem ty_3 {f n : Nat} {seen : List Nat} {c : Int} {w : Int64} (h : ∀ kk, look T s (s.2.1 0) kk = kk f) (q : f ∈ seen) : mst T (Crun s (Itypes c w n seen :: k)) = fl T s 3 := (h _).trans (if_pos q)
theorem ty_5 {f n : Nat} {seen : List Nat} {c : Int} {w : Int64} (h : ∀ kk, look T s (s.2.1 0) kk = kk f) (q : f ∉ seen) (hn : 6 ≤ n) : mst T (Crun s (Itypes c w n seen :: k)) = fl T s 5 := (h _).trans ((if_neg q).trans (if_pos hn))
theorem ty_y {f n : Nat} {seen : List Nat} {c : Int} {w : Int64} (h : ∀ kk, look T s (s.2.1 0) kk = kk f) (q : f ∉ seen) (hn : ¬ 6 ≤ n) : mst T (Crun s (Itypes c w n seen :: k)) = Crun (nx s 1) (Imore c w (n + 1) (f :: seen) :: k) := (h _).trans ((if_neg q).trans (if_neg hn))
theorem ty_b {n : Nat} {seen : List Nat} {c : Int} {w : Int64} {F : Int} (h : ∀ kk, look T s (s.2.1 0) kk = Cbad F) : mst T (Crun s (Itypes c w n seen :: k)) = Cbad F := h _
theorem more_y (c : Int) (w : Int64) (n : Nat) (seen : List Nat) (h : T.1 (s.1 0) = 44) : mst T (Crun s (Imore c w n seen :: k)) = Crun (nx s 1) (Itypes c w n seen :: k) := if_pos h
theorem more_n (c : Int) (w : Int64) (n : Nat) (seen : List Nat) (h : T.1 (s.1 0) ≠ 44) : mst T (Crun s (Imore c w n seen :: k)) = Crun s (ItyD c w seen :: k) := if_neg h
theorem td_0 (w : Int64) (seen : List Nat) : mst T (Crun s (ItyD 0 w seen :: k)) = Crun s (Itake 59 :: IaddTy w seen :: Istmt :: k) := (show (if (0 : Int) = 0 then Crun s (Itake 59 :: IaddTy w seen :: Istmt :: k) else Crun s (Iscope w seen :: k)) = _ from if_pos rfl)
theorem td_1 (w : Int64) (seen : List Nat) : mst T (Crun s (ItyD 1 w seen :: k)) = Crun s (Iscope w seen :: k) := (show (if (1 : Int) = 0 then Crun s (Itake 59 :: IaddTy w seen :: Istmt :: k) else Crun s (Iscope w seen :: k)) = _ from if_neg (by decide))
theorem like_y (w : Int64) (h : T.1 (s.1 0) = 129) : mst T (Crun s (Ilike w :: k)) = Crun (nx s 1) (Itypes 0 w 0 [] :: k) := if_pos h
theorem like_n (w : Int64) (h : T.1 (s.1 0) ≠ 129) : mst T (Crun s (Ilike w :: k)) = Crun s (Itake 59 :: IaddTy w [] :: Istmt :: k) := if_neg h
theorem called_y (a : Int) (f : Nat) (h : T.1 (s.1 0) = 133) : mst T (Crun s (Icalled a f :: k)) = Crun (nx s 1) (Iword a f :: k) := if_pos h
theorem called_n (a : Int) (f : Nat) (h : T.1 (s.1 0) ≠ 133) : mst T (Crun s (Icalled a f :: k)) = Crun s (Itake 59 :: IaddNeed a f 0 :: Imember :: k) := if_neg h
theorem rank_y (m : Nat) (sc : Int) (w : Int64) (l : List Nat) (h : T.1 (s.1 0) = 134) : mst T (Crun s (Irank m sc w l :: k)) = Crun (nx s 1) (IrankN m sc w l :: k) := if_pos h
theorem rank_n (m : Nat) (sc : Int) (w : Int64) (l : List Nat) (h : T.1 (s.1 0) ≠ 134) : mst T (Crun s (Irank m sc w l :: k)) = Crun s (IwhenI m sc w (0 :: l) :: k) := if_neg h
theorem when_y (m : Nat) (sc : Int) (w : Int64) (l : List Nat) (h : T.1 (s.1 0) = 135) : mst T (Crun s (IwhenI m sc w l :: k)) = Crun (nx s 1) (IwhenS m sc w l :: k) := if_pos h
theorem when_n (m : Nat) (sc : Int) (w : Int64) (l : List Nat) (h : T.1 (s.1 0) ≠ 135) : mst T (Crun s (IwhenI m sc w l :: k)) = Crun s (Itake 123 :: IaddNm m sc w (0 :: 0 :: l) :: Imember :: k) := if_neg h
theorem needK_l (h : T.1 (s.1 0) = 138) : mst T (Crun s (IneedK :: k)) = Crun (nx s 1) (IneedT 1 :: k) := if_pos h
theorem needK_a (h : T.1 (s.1 0) = 139) : mst T (Crun s (IneedK :: k)) = Crun (nx s 1) (IneedT 2 :: k) := (if_neg (fun q => by rw [h] at q; exact absurd q (by decide))).trans (if_pos h)
theorem needK_n (h1 : T.1 (s.1 0) ≠ 138) (h2 : T.1 (s.1 0) ≠ 139) : mst T (Crun s (IneedK :: k)) = Crun s (IneedT 0 :: k) := (if_neg h1).trans (if_neg h2)
theorem nd_0 {f : Nat} (h : ∀ kk, look T s (s.2.1 0) kk = kk f) : mst T (Crun s (IneedT 0 :: k)) = Crun (nx s 1) (Icalled 0 f :: k) := (h _).trans (if_neg (by decide))
theorem nd_1 {f : Nat} (h : ∀ kk, look T s (s.2.1 0) kk = kk f) : mst T (Crun s (IneedT 1 :: k)) = Crun (nx s 1) (Icalled 1 f :: k) := (h _).trans (if_neg (by decide))
theorem nd_2 {f : Nat} (h : ∀ kk, look T s (s.2.1 0) kk = kk f) : mst T (Crun s (IneedT 2 :: k)) = Crun (nx s 1) (Itake 59 :: IaddNeed 2 f 0 :: Imember :: k) := (h _).trans (if_pos rfl)
theorem nd_b {a F : Int} (h : ∀ kk, look T s (s.2.1 0) kk = Cbad F) : mst T (Crun s (IneedT a :: k)) = Cbad F := h _
theorem m_addTy (w : Int64) (l : List Nat) : mst T (Crun s (IaddTy w l :: k)) = Crun (tyS s w l) k := rfl
theorem m_addSe (w : Int64) (v : Nat) : mst T (Crun s (IaddSe w v :: k)) = Crun (seS s w v) k := rfl
theorem m_addNm (m : Nat) (sc : Int) (w : Int64) (l : List Nat) : mst T (Crun s (IaddNm m sc w l :: k)) = Crun (nmS s m sc w l) k := rfl
theorem m_addNeed (a : Int) (f ca : Nat) : mst T (Crun s (IaddNeed a f ca :: k)) = Crun (ndS s a f ca) k := rfl
theorem m_addWr (f : Nat) (a : Int) (l : List Nat) : mst T (Crun s (IaddWr f a l :: k)) = Crun (wrS s f a l) k := rfl
theorem mn_y {x : Nat × St} (h : ∀ kk, mthN T s kk = kk x) : mst T (Crun s (ImethN :: k)) = Crun (sL (sT x.2 (x.1 :: s.2.2.2)) (100 + 32 * ((s.2.1 2).length - 1) + x.1) (cl s + 1)) k := h _
theorem mn_b {F : Int} (h : ∀ kk, mthN T s kk = Cbad F) : mst T (Crun s (ImethN :: k)) = Cbad F := h _
theorem wt_y {f : Nat} (h : ∀ kk, look T s (s.2.1 0) kk = kk f) : mst T (Crun s (IwrapType :: k)) = Crun (nx s 1) (Itake 46 :: IwrapMeth f :: k) := h _
theorem wt_b {F : Int} (h : ∀ kk, look T s (s.2.1 0) kk = Cbad F) : mst T (Crun s (IwrapType :: k)) = Cbad F := h _
theorem wm_y {f : Nat} {x : Nat × St} (h : ∀ kk, mthW T s 3 kk = kk x) : mst T (Crun s (IwrapMeth f :: k)) = Crun x.2 (IwrN f x.1 :: k) := h _
theorem wm_b {f : Nat} {F : Int} (h : ∀ kk, mthW T s 3 kk = Cbad F) : mst T (Crun s (IwrapMeth f :: k)) = Cbad F := h _
theorem sc_n (w : Int64) (l : List Nat) (h : T.1 (s.1 0) < 148 ∨ 151 < T.1 (s.1 0)) : mst T (Crun s (Iscope w l :: k)) = fl T s 1 := if_pos h
theorem sc_y (w : Int64) (l : List Nat) (h : ¬ (T.1 (s.1 0) < 148 ∨ 151 < T.1 (s.1 0))) : mst T (Crun s (Iscope w l :: k)) = Crun (scopeS s) (IcalledH (msk s.1 l) (T.1 (s.1 0) - 148) w :: k) := if_neg h
theorem ph_1 (f : Nat) (l : List Nat) (h : T.1 (s.1 0) < 152 ∨ 155 < T.1 (s.1 0)) : mst T (Crun s (Iphase f l :: k)) = fl T s 1 := if_pos h
theorem ph_5 (f : Nat) (l : List Nat) (h : T.1 (s.1 0) = 153) (q : 2 ≤ arounds s.2.2.1 f) : mst T (Crun s (Iphase f l :: k)) = fl T s 5 := (if_neg (fun z => by omega)).trans (if_pos ⟨h, q⟩)
theorem ph_a (f : Nat) (l : List Nat) (h : T.1 (s.1 0) = 153) (q : ¬ 2 ≤ arounds s.2.2.1 f) : mst T (Crun s (Iphase f l :: k)) = Crun (sN (nx s 1) 4 2) (Iexpr 0 :: Iem 0 :: Itake 59 :: IaddWr f 1 (l ++ [cl s]) :: Istmt :: k) := (if_neg (fun z => by omega)).trans ((if_neg (fun z => q z.2)).trans (by rw [if_pos h, h]; rfl))
theorem ph_y (f : Nat) (l : List Nat) (h : ¬ (T.1 (s.1 0) < 152 ∨ 155 < T.1 (s.1 0))) (q : T.1 (s.1 0) ≠ 153) : mst T (Crun s (Iphase f l :: k)) = Crun (sN (nx s 1) 4 1) (Iexpr 0 :: Iem 0 :: Itake 59 :: IaddWr f (T.1 (s.1 0) - 152) (l ++ [cl s]) :: Istmt :: k) := (if_neg h).trans ((if_neg (fun z => q z.1)).trans (by rw [if_neg q]))
theorem st_0 (h : T.1 (s.1 0) = 0) : mst T (Crun s (Istmt :: k)) = Cdone s := if_pos h
theorem st_128f (h : T.1 (s.1 0) = 128) (q : 24 ≤ (s.2.1 0).length) : mst T (Crun s (Istmt :: k)) = fl T s 5 := by
  show stmtW T s k = _; unfold stmtW; rw [h]; exact if_pos q
theorem st_128 (h : T.1 (s.1 0) = 128) (q : ¬ 24 ≤ (s.2.1 0).length) : mst T (Crun s (Istmt :: k)) = Crun (nx s 1) (InewType :: k) := by
  show stmtW T s k = _; unfold stmtW; rw [h]; exact if_neg q
theorem st_130f (h : T.1 (s.1 0) = 130) (q : 12 ≤ (s.2.1 1).length) : mst T (Crun s (Istmt :: k)) = fl T s 5 := by
  show stmtW T s k = _; unfold stmtW; rw [h]; exact if_pos q
theorem st_130 (h : T.1 (s.1 0) = 130) (q : ¬ 12 ≤ (s.2.1 1).length) : mst T (Crun s (Istmt :: k)) = Crun (nx s 1) (InewSet :: k) := by
  show stmtW T s k = _; unfold stmtW; rw [h]; exact if_neg q
theorem st_131f (h : T.1 (s.1 0) = 131) (q : 24 ≤ (s.2.1 2).length) : mst T (Crun s (Istmt :: k)) = fl T s 5 := by
  show stmtW T s k = _; unfold stmtW; rw [h]; exact if_pos q
theorem st_131 (h : T.1 (s.1 0) = 131) (q : ¬ 24 ≤ (s.2.1 2).length) : mst T (Crun s (Istmt :: k)) = Crun (nx s 1) (InewComp :: k) := by
  show stmtW T s k = _; unfold stmtW; rw [h]; exact if_neg q
theorem st_136f (h : T.1 (s.1 0) = 136) (q : 12 ≤ s.2.2.1.length) : mst T (Crun s (Istmt :: k)) = fl T s 5 := by
  show stmtW T s k = _; unfold stmtW; rw [h]; exact if_pos q
theorem st_136 (h : T.1 (s.1 0) = 136) (q : ¬ 12 ≤ s.2.2.1.length) : mst T (Crun s (Istmt :: k)) = Crun (nx s 1) (IwrapType :: k) := by
  show stmtW T s k = _; unfold stmtW; rw [h]; exact if_neg q
theorem st_x (h0 : T.1 (s.1 0) ≠ 0) (h1 : T.1 (s.1 0) ≠ 128) (h2 : T.1 (s.1 0) ≠ 130) (h3 : T.1 (s.1 0) ≠ 131) (h4 : T.1 (s.1 0) ≠ 136) : mst T (Crun s (Istmt :: k)) = fl T s 1 := by
  show stmtW T s k = _; unfold stmtW; rw [if_neg h0, if_neg h1, if_neg h2, if_neg h3, if_neg h4]
theorem mb_125 (h : T.1 (s.1 0) = 125) : mst T (Crun s (Imember :: k)) = Crun (nx s 1) (Istmt :: k) := if_pos h
theorem mb_137f (h : T.1 (s.1 0) = 137) (q : 8 ≤ s.1 1) : mst T (Crun s (Imember :: k)) = fl T s 5 := by
  show memberW T s k = _; unfold memberW; rw [h]; exact if_pos q
theorem mb_137 (h : T.1 (s.1 0) = 137) (q : ¬ 8 ≤ s.1 1) : mst T (Crun s (Imember :: k)) = Crun (nx s 1) (IneedK :: k) := by
  show memberW T s k = _; unfold memberW; rw [h]; exact if_neg q
theorem mb_140f (h : T.1 (s.1 0) = 140) (q : s.1 2 = 1) : mst T (Crun s (Imember :: k)) = fl T s 1 := by
  show memberW T s k = _; unfold memberW; rw [h]; exact if_pos q
theorem mb_140 (h : T.1 (s.1 0) = 140) (q : ¬ s.1 2 = 1) : mst T (Crun s (Imember :: k)) = Crun (sL (nx (sN s 2 1) 1) (100 + 32 * ((s.2.1 2).length - 1) + 30) (cl s + 1)) (Iexpr 0 :: Iem 0 :: Itake 59 :: Imember :: k) := by
  show memberW T s k = _; unfold memberW; rw [h]; exact if_neg q
theorem mb_141f (h : T.1 (s.1 0) = 141) (q : s.1 3 = 1) : mst T (Crun s (Imember :: k)) = fl T s 1 := by
  show memberW T s k = _; unfold memberW; rw [h]; exact if_pos q
theorem mb_141 (h : T.1 (s.1 0) = 141) (q : ¬ s.1 3 = 1) : mst T (Crun s (Imember :: k)) = Crun (sL (nx (sN s 3 1) 1) (100 + 32 * ((s.2.1 2).length - 1) + 31) (cl s + 1)) (Iexpr 0 :: Iem 0 :: Itake 59 :: Imember :: k) := by
  show memberW T s k = _; unfold memberW; rw [h]; exact if_neg q
theorem mb_142 (h : T.1 (s.1 0) = 142) : mst T (Crun s (Imember :: k)) = Crun (nx s 1) (ImethN :: Iexpr 0 :: Iem 0 :: Itake 59 :: Imember :: k) := by
  show memberW T s k = _; unfold memberW; rw [h]; rfl
theorem mb_x (h1 : T.1 (s.1 0) ≠ 125) (h2 : T.1 (s.1 0) ≠ 137) (h3 : T.1 (s.1 0) ≠ 140) (h4 : T.1 (s.1 0) ≠ 141) (h5 : T.1 (s.1 0) ≠ 142) : mst T (Crun s (Imember :: k)) = fl T s 1 := by
  show memberW T s k = _; unfold memberW; rw [if_neg h1, if_neg h2, if_neg h3, if_neg h4, if_neg h5]
end Stp
/-! what the takers' words say -/
theorem newN_1 {T : Tk} {s : St} (h : T.1 (s.1 0) ≠ 3) (kk : Int64 → Cf) : newN T s kk = fl T s 1 := if_pos h
theorem newN_3 {T : Tk} {s : St} (h : T.1 (s.1 0) = 3) (q : isTold s (T.2.1 (s.1 0)) = true) (kk : Int64 → Cf) : newN T s kk = fl T s 3 := (if_neg (fun z => z h)).trans (if_pos q)
theorem newN_y {T : Tk} {s : St} (h : T.1 (s.1 0) = 3) (q : ¬ isTold s (T.2.1 (s.1 0)) = true) (kk : Int64 → Cf) : newN T s kk = kk (T.2.1 (s.1 0)) := (if_neg (fun z => z h)).trans (if_neg q)
theorem look_1 {T : Tk} {s : St} {l : List Int64} (h : T.1 (s.1 0) ≠ 3) (kk : Nat → Cf) : look T s l kk = fl T s 1 := if_pos h
theorem look_2 {T : Tk} {s : St} {l : List Int64} (h : T.1 (s.1 0) = 3) (q : fndI l (T.2.1 (s.1 0)) = none) (kk : Nat → Cf) : look T s l kk = fl T s 2 := (if_neg (fun z => z h)).trans (by rw [q])
theorem look_y {T : Tk} {s : St} {l : List Int64} {f : Nat} (h : T.1 (s.1 0) = 3) (q : fndI l (T.2.1 (s.1 0)) = some f) (kk : Nat → Cf) : look T s l kk = kk f := (if_neg (fun z => z h)).trans (by rw [q])
theorem nbr_y {T : Tk} {s : St} {j f : Nat} (q : fndI (s.2.1 j) (T.2.1 (s.1 0)) = some f) (kk : Nat × St → Cf) : nbrW T s j kk = kk (f, nx s 1) := by unfold nbrW; rw [q]
theorem nbr_5 {T : Tk} {s : St} {j : Nat} (q : fndI (s.2.1 j) (T.2.1 (s.1 0)) = none) (h : 20 ≤ (s.2.1 j).length) (kk : Nat × St → Cf) : nbrW T s j kk = fl T s 5 := by unfold nbrW; rw [q]; exact if_pos h
theorem nbr_n {T : Tk} {s : St} {j : Nat} (q : fndI (s.2.1 j) (T.2.1 (s.1 0)) = none) (h : ¬ 20 ≤ (s.2.1 j).length) (kk : Nat × St → Cf) : nbrW T s j kk = kk ((s.2.1 j).length, sA (nx s 1) j (T.2.1 (s.1 0))) := by unfold nbrW; rw [q]; exact if_neg h
theorem mth_1 {T : Tk} {s : St} {j : Nat} (h : T.1 (s.1 0) ≠ 3) (kk : Nat × St → Cf) : mthW T s j kk = fl T s 1 := if_pos h
theorem mth_y {T : Tk} {s : St} {j : Nat} (h : T.1 (s.1 0) = 3) (kk : Nat × St → Cf) : mthW T s j kk = nbrW T s j kk := if_neg (fun z => z h)
theorem mthN_3 {T : Tk} {s : St} (h : T.1 (s.1 0) = 3) (q : mTold s (T.2.1 (s.1 0)) = true) (kk : Nat × St → Cf) : mthN T s kk = fl T s 3 := if_pos ⟨h, q⟩
theorem mthN_y {T : Tk} {s : St} (q : ¬ (T.1 (s.1 0) = 3 ∧ mTold s (T.2.1 (s.1 0)) = true)) (kk : Nat × St → Cf) : mthN T s kk = mthW T s 3 kk := if_neg q
theorem mTold_n {s : St} {w : Int64} (h : fndI (s.2.1 3) w = none) : mTold s w = false := by unfold mTold; rw [h]
theorem mTold_s {s : St} {w : Int64} {f : Nat} (h : fndI (s.2.1 3) w = some f) : mTold s w = s.2.2.2.contains f := by unfold mTold; rw [h]
/-! the E's code, as the reader's machine lays it -/
theorem sL_s (s : St) (j : Nat) (l : List Int64) : (sLl s j l).2.1 j = l := if_pos rfl
theorem nLl_s (s : St) (j : Nat) (l : List Int64) : nL (sLl s j l) j = l.length := congrArg List.length (sL_s s j l)
theorem nL_s (s : St) (j n : Nat) : nL (sL s j n) j = n := (nLl_s s j _).trans List.length_replicate
theorem sL_o (s : St) {j k : Nat} (l : List Int64) (h : ¬ k = j) : (sLl s j l).2.1 k = s.2.1 k := if_neg h
theorem sL_3 (s : St) {j n : Nat} (h : 6 ≤ j) : ((sL s j n).2.1 3).length = (s.2.1 3).length := congrArg List.length (sL_o s _ (by omega))
theorem nL_o (s : St) {j k : Nat} (l : List Int64) (h : ¬ k = j) : nL (sLl s j l) k = nL s k := congrArg List.length (sL_o s l h)
theorem emS_o (s : St) (o : Nat) (x : List Int64) (y : Nat) {k : Nat} (h5 : ¬ k = 5) (h : k < 2000 + 3 * cl s ∨ 2003 + 3 * cl s ≤ k) : (emL s o x y).2.1 k = s.2.1 k := by
  unfold emL
  rw [sL_o _ _ (by omega), sL_o _ _ (by omega), sL_o _ _ (by omega), sL_o _ _ h5]
theorem nL_em (s : St) (o : Nat) (x : List Int64) (y : Nat) {k : Nat} (h5 : ¬ k = 5) (h : k < 2000 + 3 * cl s ∨ 2003 + 3 * cl s ≤ k) : nL (emL s o x y) k = nL s k := congrArg List.length (emS_o s o x y h5 h)
theorem cl_em (s : St) (o : Nat) (x : List Int64) (y : Nat) : cl (emL s o x y) = cl s + 1 := by
  show nL (emL s o x y) 5 = _
  unfold emL
  rw [nL_o _ _ (by omega), nL_o _ _ (by omega), nL_o _ _ (by omega), nL_s]
theorem op_em (s : St) (o : Nat) (x : List Int64) (y : Nat) : nL (emL s o x y) (2000 + 3 * cl s) = o := by
  unfold emL
  rw [nL_o _ _ (by omega), nL_o _ _ (by omega), nL_s]
theorem x_em (s : St) (o : Nat) (x : List Int64) (y : Nat) : nL (emL s o x y) (2001 + 3 * cl s) = x.length := by
  unfold emL
  rw [nL_o _ _ (by omega), nLl_s]
theorem xl_em (s : St) (o : Nat) (x : List Int64) (y : Nat) : (emL s o x y).2.1 (2001 + 3 * cl s) = x := by
  unfold emL
  rw [sL_o _ _ (by omega), sL_s]
theorem y_em (s : St) (o : Nat) (x : List Int64) (y : Nat) : nL (emL s o x y) (2002 + 3 * cl s) = y := by
  unfold emL
  rw [nL_s]
theorem cl_pt (s : St) (i x : Nat) : cl (ptS s i x) = cl s := nL_o s _ (by omega)
/-- how many words of the class an order takes; where it begins there -/
def szO (o : Nat) : Nat := if o = 2 ∨ (10 ≤ o ∧ o ≤ 14) then 2 else 1
def psz (f : Nat → Nat) : Nat → Nat
  | 0 => 0
  | i + 1 => psz f i + szO (f i)
abbrev opf (s : St) : Nat → Nat := fun i => nL s (2000 + 3 * i)
def wl (s : St) : Nat := psz (opf s) (cl s)
theorem szO_b (o : Nat) : 1 ≤ szO o ∧ szO o ≤ 2 := by
  unfold szO
  by_cases h : o = 2 ∨ (10 ≤ o ∧ o ≤ 14)
  · rw [if_pos h]
    omega
  · rw [if_neg h]
    omega
theorem psz_ext {f g : Nat → Nat} : ∀ {i : Nat}, (∀ k, k < i → f k = g k) → psz f i = psz g i
  | 0, _ => rfl
  | i + 1, h => by
    show psz f i + szO (f i) = psz g i + szO (g i)
    rw [psz_ext (fun k hk => h k (by omega)), h i (by omega)]
theorem psz_le {f : Nat → Nat} {i : Nat} : ∀ {j : Nat}, i < j → psz f i + szO (f i) ≤ psz f j
  | 0, h => absurd h (Nat.not_lt_zero _)
  | j + 1, h => by
    show psz f i + szO (f i) ≤ psz f j + szO (f j)
    by_cases q : i = j
    · subst q
      exact Nat.le_refl _
    · have z := psz_le (f := f) (i := i) (j := j) (by omega)
      omega
theorem psz_lt {f : Nat → Nat} {i j : Nat} (h : i < j) : psz f i < psz f j := by
  have z := psz_le (f := f) h
  have y := szO_b (f i)
  omega
theorem opf_em (s : St) (o : Nat) (x : List Int64) (y : Nat) {i : Nat} (h : i < cl s) : opf (emL s o x y) i = opf s i := nL_em s o x y (by omega) (Or.inl (by omega))
theorem psz_em (s : St) (o : Nat) (x : List Int64) (y : Nat) {i : Nat} (h : i ≤ cl s) : psz (opf (emL s o x y)) i = psz (opf s) i := psz_ext (fun k hk => opf_em s o x y (by omega))
theorem wl_em (s : St) (o : Nat) (x : List Int64) (y : Nat) : wl (emL s o x y) = wl s + szO o := by
  unfold wl
  rw [cl_em]
  show psz (opf (emL s o x y)) (cl s) + szO (nL (emL s o x y) (2000 + 3 * cl s)) = _
  rw [op_em, psz_em s o x y (Nat.le_refl _)]
theorem opf_pt (s : St) (i x : Nat) : opf (ptS s i x) = opf s := funext fun k => nL_o s _ (by omega)
theorem wl_pt (s : St) (i x : Nat) : wl (ptS s i x) = wl s := by
  unfold wl
  rw [opf_pt, cl_pt]
abbrev keepL (s s' : St) : Prop := ∀ j, 5 ≤ j → s'.2.1 j = s.2.1 j
/-- what stays of the code -/
def keepE (s s' : St) : Prop := cl s ≤ cl s' ∧ ∀ j, 8 ≤ j → j < 2000 + 3 * cl s → s'.2.1 j = s.2.1 j
theorem keepE.rf {s : St} : keepE s s := ⟨Nat.le_refl _, fun _ _ _ => rfl⟩
theorem keepE.tr {s a c : St} (h : keepE s a) (k : keepE a c) : keepE s c := ⟨Nat.le_trans h.1 k.1, fun j hj h2 => (k.2 j hj (by have := h.1; omega)).trans (h.2 j hj h2)⟩
theorem keepE.eq {s s' : St} (e : ∀ j, 5 ≤ j → s'.2.1 j = s.2.1 j) : keepE s s' := ⟨Nat.le_of_eq (congrArg List.length (e 5 (by decide))).symm, fun j hj _ => e j (by omega)⟩
theorem keepE.em {s : St} {o : Nat} {x : List Int64} {y : Nat} : keepE s (emL s o x y) := ⟨by rw [cl_em]; omega, fun j hj h => emS_o s o x y (by omega) (Or.inl h)⟩
theorem keepE.pt {s a : St} {i x : Nat} (h : keepE s a) (k : cl s ≤ i) : keepE s (ptS a i x) := ⟨by rw [cl_pt]; exact h.1, fun j hj h2 => (sL_o a _ (by omega)).trans (h.2 j hj h2)⟩
theorem upB_p (f : Nat → List Int64) (t : Nat) (w : Int64) {k : Nat} (h : ¬ k = t) : upB f t w k = f k := if_neg h
theorem mth_e {T : Tk} {s : St} {j0 : Nat} {x : Nat × St} (hj : j0 < 5) (h : ∀ kk, mthW T s j0 kk = kk x) (j : Nat) (hj5 : 5 ≤ j) : x.2.2.1 j = s.2.1 j := by
  have z := h (fun y => Cdone y.2)
  unfold mthW at z
  by_cases c : T.1 (s.1 0) ≠ 3
  · rw [if_pos c] at z
    exact absurd z (fun e => by unfold fl at e; cases e)
  · rw [if_neg c] at z
    unfold nbrW at z
    cases q : fndI (s.2.1 j0) (T.2.1 (s.1 0)) with
    | some f =>
      rw [q] at z
      have e : nx s 1 = x.2 := by injection z with z1; injection z1
      rw [← e]
      rfl
    | none =>
      rw [q] at z
      by_cases d : 20 ≤ (s.2.1 j0).length
      · exact absurd ((if_pos d).symm.trans z) (fun e => by unfold fl at e; cases e)
      · have e : sA (nx s 1) j0 (T.2.1 (s.1 0)) = x.2 := by have z2 := (if_neg d).symm.trans z; injection z2 with z1; injection z1
        rw [← e]
        exact upB_p _ _ _ (by omega)
theorem mthN_e {T : Tk} {s : St} {x : Nat × St} (h : ∀ kk, mthN T s kk = kk x) (j : Nat) (hj5 : 5 ≤ j) : x.2.2.1 j = s.2.1 j := by
  by_cases c : T.1 (s.1 0) = 3 ∧ mTold s (T.2.1 (s.1 0)) = true
  · have z := h (fun y => Cdone y.2)
    unfold mthN at z
    rw [if_pos c] at z
    exact absurd z (fun e => by unfold fl at e; cases e)
  · exact mth_e (j0 := 3) (by decide) (fun kk => (mthN_y c kk).symm.trans (h kk)) j hj5
/-! the content's numbers -/
theorem ndf_1 (g : Nat → Nat) (c a f ca : Nat) : ndf g c a f ca 1 = g 1 + 1 := if_pos (Or.inl rfl)
theorem ndf_lo {g : Nat → Nat} {c a f ca i : Nat} (h1 : i ≠ 1) (h : i < 60) : ndf g c a f ca i = g i := by
  unfold ndf
  rw [if_neg (by omega), if_neg (by omega), if_neg (by omega), if_neg (by omega)]
/-- below 66 + 8 * c all stays -/
theorem ndf_h {g : Nat → Nat} {c a f ca i : Nat} (h1 : i ≠ 1) (h : i < 300) (h6 : i ≠ 66 + 8 * c) : ndf g c a f ca i = g i := by
  unfold ndf
  rw [if_neg (by omega), if_neg (by omega), if_neg (by omega), if_neg (by omega)]
theorem ndf_n {g : Nat → Nat} {c a f ca : Nat} : ndf g c a f ca (66 + 8 * c) = g 1 + 1 := if_pos (Or.inr rfl)
theorem ndf_o {g : Nat → Nat} {c a f ca i : Nat} (hc : c < 24) (h : 300 ≤ i) (ho : i < 300 + 32 * c + 4 * g 1 ∨ 303 + 32 * c + 4 * g 1 ≤ i) : ndf g c a f ca i = g i := by
  unfold ndf
  rw [if_neg (by omega), if_neg (by omega), if_neg (by omega), if_neg (by omega)]
theorem ndf_t {g : Nat → Nat} {c a f ca : Nat} (hc : c < 24) : ndf g c a f ca (300 + 32 * c + 4 * g 1) = f := by
  unfold ndf
  rw [if_neg (by omega), if_pos rfl]
theorem ndf_k {g : Nat → Nat} {c a f ca : Nat} (hc : c < 24) : ndf g c a f ca (301 + 32 * c + 4 * g 1) = a := by
  unfold ndf
  rw [if_neg (by omega), if_neg (by omega), if_pos rfl]
theorem ndf_w {g : Nat → Nat} {c a f ca : Nat} (hc : c < 24) : ndf g c a f ca (302 + 32 * c + 4 * g 1) = ca := by
  unfold ndf
  rw [if_neg (by omega), if_neg (by omega), if_neg (by omega), if_pos rfl]
theorem hdr_o {f : Nat → Nat} {c m sc i : Nat} {l : List Nat} (h : i < 60 + 8 * c ∨ 68 + 8 * c ≤ i) : hdr f c m sc l i = f i := if_neg (by omega)
theorem hdr_i {f : Nat → Nat} {c m sc r : Nat} {l : List Nat} (h : r < 8) : hdr f c m sc l (60 + 8 * c + r) = hvl m sc l r := by
  unfold hdr
  rw [if_pos (by omega), show 60 + 8 * c + r - (60 + 8 * c) = r from by omega]
/-- content and lists stay -/
def keepC (s s' : St) : Prop := (∀ i, 10 ≤ i → s'.1 i = s.1 i) ∧ ∀ j, j < 3 → s'.2.1 j = s.2.1 j
theorem keepC.rf {s : St} : keepC s s := ⟨fun _ _ => rfl, fun _ _ => rfl⟩
theorem keepC.tr {s a c : St} (h : keepC s a) (k : keepC a c) : keepC s c := ⟨fun i hi => (k.1 i hi).trans (h.1 i hi), fun j hj => (k.2 j hj).trans (h.2 j hj)⟩
theorem keepC.sn {s : St} {i v : Nat} (h : i < 10) : keepC s (sN s i v) := ⟨fun j hj => upN_o _ _ _ (by omega), fun _ _ => rfl⟩
theorem keepC.n1 {s : St} {n : Nat} : keepC s (nx s n) := keepC.sn (by decide)
theorem keepC.st {s : St} {l : List Nat} : keepC s (sT s l) := ⟨fun _ _ => rfl, fun _ _ => rfl⟩
theorem keepC.sw {s : St} {x : Nat × Bool} : keepC s (sW s x) := ⟨fun _ _ => rfl, fun _ _ => rfl⟩
theorem keepC.sc {s : St} : keepC (nx s 1) (scopeS s) := keepC.tr (keepC.tr (keepC.tr (keepC.tr (keepC.sn (i := 1) (v := 0) (by decide)) (keepC.sn (i := 2) (v := 0) (by decide))) (keepC.sn (i := 3) (v := 0) (by decide))) (keepC.sn (i := 4) (v := 0) (by decide))) (keepC.st (l := []))
theorem look_lt {T : Tk} {s : St} {l : List Int64} {f : Nat} (h : ∀ kk, look T s l kk = kk f) : f < l.length := by
  have z := h (fun g => Crun (sN s 0 g) [])
  unfold look at z
  split at z
  · unfold fl at z
    cases z
  · split at z
    · unfold fl at z
      cases z
    · rename_i g e
      have y : (sN s 0 g).1 0 = (sN s 0 f).1 0 := by
        injection z with z
        rw [(Prod.mk.inj z).1]
      have y2 : g = f := y
      rw [← y2]
      unfold fndI at e
      rw [List.findIdx?_eq_some_iff_getElem] at e
      exact e.1
/-- the types' sets of a list -/
theorem msk_cons (f : Nat → Nat) (t : Nat) (l : List Nat) : msk f (t :: l) = f (30 + t) ||| msk f l := rfl
theorem msk_eq {f g : Nat → Nat} (h : ∀ i, 10 ≤ i → g i = f i) (l : List Nat) : msk g l = msk f l := by
  induction l with
  | nil => rfl
  | cons t l ih => rw [msk_cons, msk_cons, ih, h _ (by omega)]



