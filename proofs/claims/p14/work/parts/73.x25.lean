theorem om_004b84c8d7e3 {v0 : Int} {v1 : Nat} (h0 : (v0 : Int) ≤ 11) (h1 : (((v1 : Nat) : Int) : Int) = v0) : (v1 : Nat) < 12 := by omega
theorem om_0064dfce3c7a {v0 v1 v2 v3 v4 v5 : Int} (h0 : (v0 : Int) = v1) (h1 : (0 : Int) ≤ v1) (h2 : (v1 : Int) ≤ 2048) (h3 : (v2 : Int) = (v0 - 1)) (h4 : (v3 : Int) = v2) (h5 : (v4 : Int) = (v3 - 1)) (h6 : (v5 : Int) = v4) : ((((-2147483648) : Int) ≤ (v5 + 1)) ∧ (((v5 + 1) : Int) ≤ 2147483647)) := by omega
theorem om_0071aa0bd3eb {v0 v1 : Int} (h0 : (0 : Int) ≤ v0) (h1 : (v1 : Int) ≤ 300) (h2 : (v0 : Int) < v1) : ((((-2147483648) : Int) ≤ (v1 - 1)) ∧ (((v1 - 1) : Int) ≤ 2147483647)) := by omega
theorem om_00e84f8bfeff {v0 v1 : Nat} : ((0 + 1) : Nat) ≤ (((4 * v0) + (40 * v1)) + 8) := by omega
theorem om_011bccdb17d5 {v0 : Int} {v1 v2 : Nat} (h0 : (v0 : Int) = ((v1 : Nat) : Int)) (h1 : ((24 * v2) : Nat) ≤ v1) : (0 : Int) ≤ v0 := by omega
theorem om_011f32c1c680 {v0 v1 : Int} (h0 : (v0 : Int) ≤ 1) (h1 : (0 : Int) ≤ v1) (h2 : (v1 : Int) < v0) : ((((-2147483648) : Int) ≤ (v1 + 1)) ∧ (((v1 + 1) : Int) ≤ 2147483647)) := by omega
theorem om_015251d4835e {v0 v1 v2 v3 v4 v5 v6 v7 v8 : Int} {v9 : Nat} (h0 : (v0 : Int) = 0) (h1 : (0 : Int) ≤ v1) (h2 : (v2 : Int) = v3) (h3 : (v4 : Int) = v5) (h4 : (v6 : Int) = v7) (h5 : ((v2 + 1) : Int) ≤ v8) (h6 : (v7 : Int) ≤ ((v9 : Nat) : Int)) (h7 : ((v4 + 1) : Int) ≤ v7) (h8 : ((v1 + 1) : Int) ≤ v3) (h9 : ((v8 + 1) : Int) ≤ v5) : (((0 : Int) ≤ v6) ∧ ((((v6 : Int) ≤ ((v9 : Nat) : Int)) ∧ ((((v0 : Int) = 0) ∧ (((v1 + 1) : Int) ≤ v6)))))) := by omega
theorem om_01756cdc8e44 {v0 : Int} (h0 : (v0 : Int) = 135) : (v0 : Int) ≠ 0 := by omega
theorem om_01a288229520 {v1 : Int} {v0 v2 : Nat} (h0 : (((v0 : Nat) : Int) : Int) ≤ ((28 * v1) + 25)) (h1 : (v2 : Nat) = (v0 + 1)) : (((v2 : Nat) : Int) : Int) ≤ ((28 * v1) + 26) := by omega
theorem om_01b56a48bf03 {v0 v1 v2 v3 v4 v5 : Int} (h0 : (v0 : Int) ≤ (2 * v1)) (h1 : (v2 : Int) = v3) (h2 : (v4 : Int) = v0) (h3 : ((v2 + 1) : Int) ≤ v5) (h4 : ((v1 + 1) : Int) ≤ v3) : (v4 : Int) ≤ (2 * v5) := by omega
theorem om_01b7a0d43c7e {v0 : Int} (h0 : (0 : Int) ≤ v0) (h1 : (v0 : Int) ≤ 2048) : (((0 : Int) ≤ v0) ∧ ((v0 : Int) ≤ 2048)) := by omega
theorem om_01c3cfabe013 {v0 v1 v2 : Int} (h0 : (0 : Int) ≤ v0) (h1 : (v0 : Int) ≤ 1) (h2 : (v1 : Int) = (1 - v0)) (h3 : (v2 : Int) = (10000 * v1)) : (((0 : Int) ≤ v2) ∧ ((v2 : Int) ≤ 10000)) := by omega
theorem om_01cfc30848dc {v0 v1 : Int} (h0 : (v0 : Int) = 141) (h1 : (v1 : Int) = v0) : (v1 : Int) ≠ 0 := by omega
theorem om_01ed2b3ead91 {v0 : Int} {v1 : Nat} (h0 : (v0 : Int) ≤ 47) (h1 : (v0 : Int) = ((v1 : Nat) : Int)) : (v1 : Nat) < 48 := by omega
theorem om_0223b868096c {v0 v1 v2 v3 v4 v5 v6 : Int} (h0 : (0 : Int) ≤ v0) (h1 : (0 : Int) ≤ v1) (h2 : (0 : Int) ≤ v2) (h3 : (v3 : Int) = (24 * v2)) (h4 : (v4 : Int) = (v3 + v0)) (h5 : (v5 : Int) = (8 * v4)) (h6 : (v6 : Int) = (v5 + v1)) : (0 : Int) ≤ v6 := by omega
theorem om_0258c898c48e {v0 v1 v2 v3 v4 v5 v6 : Int} (h0 : (v0 : Int) ≤ v1) (h1 : (v2 : Int) = (v1 + 1)) (h2 : (v3 : Int) = v2) (h3 : (v4 : Int) = v0) (h4 : ((v5 - v4) : Int) ≤ (v6 - v3)) (h5 : (v6 : Int) ≤ 300) (h6 : (0 : Int) ≤ v5) : (((0 : Int) ≤ v5) ∧ ((v5 : Int) ≤ 300)) := by omega
theorem om_0299e32c765d {v0 : Int} {v1 v2 : Nat} (h0 : ((10 - v0) : Int) ≤ ((v1 : Nat) : Int)) (h1 : (v0 : Int) ≤ 10) : (((8 + (5 + 11)) + 0) : Nat) ≤ (((100 * v2) + (1000 * v1)) + 590) := by omega
theorem om_02f60cc3a73b {v0 : Nat} : (((8 + (5 + 11)) + 27) : Nat) ≤ ((300 * v0) + 500) := by omega
theorem om_03197891959c {v0 v1 : Int} (h0 : (v0 : Int) ≤ 300) (h1 : (0 : Int) ≤ v1) (h2 : (v1 : Int) < v0) : ((((-2147483648) : Int) ≤ (v1 + 1)) ∧ (((v1 + 1) : Int) ≤ 2147483647)) := by omega
theorem om_033ff5f95ac9 {v0 v1 v2 v3 : Int} (h0 : (0 : Int) ≤ v0) (h1 : (v0 : Int) < 100) (h2 : (0 : Int) ≤ v1) (h3 : (v2 : Int) ≤ 24) (h4 : (v1 : Int) < v2) (h5 : (v3 : Int) = (24 * v0)) : ((((-2147483648) : Int) ≤ (v3 + v1)) ∧ (((v3 + v1) : Int) ≤ 2147483647)) := by omega
theorem om_0346887e5410 {v0 v1 v2 v3 v4 : Int} (h0 : (0 : Int) ≤ v0) (h1 : (v0 : Int) ≤ 10) (h2 : (v0 : Int) ≠ 10) (h3 : (v1 : Int) = (v0 + 1)) (h4 : (v2 : Int) = v1) (h5 : (v3 : Int) = v2) (h6 : (v4 : Int) = v3) : ((((-2147483648) : Int) ≤ (v4 - 1)) ∧ (((v4 - 1) : Int) ≤ 2147483647)) := by omega
theorem om_03537cc23bdb {v0 v1 v2 : Int} (h0 : (v0 : Int) ≤ 40) (h1 : (0 : Int) ≤ v1) (h2 : (v2 : Int) = v0) (h3 : (v1 : Int) < v2) : (((0 : Int) ≤ v1) ∧ ((v1 : Int) ≤ 39)) := by omega
theorem om_037a61b3d8e8 {v0 : Int} (h0 : (v0 : Int) = 10) (h1 : (v0 : Int) = 13) : False := by omega
theorem om_037c97ee2b51 {v0 v1 v2 v3 v4 v5 : Int} (h0 : (((v0 - v1) - v2) : Int) ≤ 1000000000) (h1 : (v3 : Int) = (v0 + 1)) (h2 : (v4 : Int) = v2) (h3 : (v5 : Int) = v1) : (((v3 - v5) - v4) : Int) ≤ 1000000001 := by omega
theorem om_039e589ff962 {v0 : Int} {v1 v2 v3 : Nat} (h0 : (v0 : Int) ≤ 12) (h1 : ((12 - v0) : Int) ≤ ((v1 : Nat) : Int)) : ((1 + 1) : Nat) ≤ ((((4 * v2) + (40 * v3)) + 14) + (2 * v1)) := by omega
theorem om_03a4a2dc5d03 {v0 v1 v2 : Int} (h0 : (v0 : Int) ≤ 1) (h1 : (v1 : Int) = (20 * v0)) (h2 : (v2 : Int) ≤ 20) : ((v1 + v2) : Int) ≤ 40 := by omega
theorem om_03bbbfa61cad {v0 v1 v2 v3 : Int} (h0 : (v0 : Int) ≤ 24) (h1 : (v1 : Int) = v0) (h2 : (0 : Int) ≤ v2) (h3 : (v2 : Int) < v1) (h4 : (v3 : Int) = (v2 + 1)) : (((0 : Int) ≤ v3) ∧ ((v3 : Int) ≤ 24)) := by omega
theorem om_03bf848abeb4 {v0 v1 v2 : Int} (h0 : (v0 : Int) = v1) (h1 : (v2 : Int) = (v0 + 1)) : (v2 : Int) = (v1 + 1) := by omega
theorem om_03c6ea50aeb8 {v0 v1 v4 : Int} {v2 v3 : Nat} (h0 : (v0 : Int) ≤ 250000) (h1 : (v1 : Int) = ((v2 : Nat) : Int)) (h2 : (v1 : Int) ≤ v0) (h3 : (v3 : Nat) = (2 * v2)) (h4 : (v0 : Int) < ((v3 : Nat) : Int)) (h5 : (v4 : Int) = (v0 + 1)) : (((0 : Int) ≤ v4) ∧ ((v4 : Int) ≤ 262144)) := by omega
theorem om_03da05c7c545 {v0 v1 : Int} (h0 : (v0 : Int) < 12) (h1 : (v1 : Int) ≤ v0) (h2 : (0 : Int) < v1) : ((((-2147483648) : Int) ≤ (v0 + 1)) ∧ (((v0 + 1) : Int) ≤ 2147483647)) := by omega
theorem om_04176f5ac7aa {v0 v1 v2 : Int} (h0 : (v0 : Int) = (v1 + 1)) (h1 : (0 : Int) ≤ v1) (h2 : (v2 : Int) ≤ 8200) (h3 : (v0 : Int) < v2) : ((((-2147483648) : Int) ≤ (v0 + 1)) ∧ (((v0 + 1) : Int) ≤ 2147483647)) := by omega
theorem om_0442424c9051 {v0 : Int} {v1 : Nat} (h0 : (v0 : Int) ≤ 8) (h1 : ((8 - v0) : Int) ≤ ((v1 : Nat) : Int)) : ((0 + 1) : Nat) ≤ ((10 * v1) + 6) := by omega
theorem om_046224c29f59 {v0 v2 : Int} {v1 v3 : Nat} (h0 : (v0 : Int) = ((v1 : Nat) : Int)) (h1 : (v1 : Nat) ≤ 24) (h2 : (v2 : Int) < v0) (h3 : (((v3 : Nat) : Int) : Int) = v2) : ((((-2147483648) : Int) ≤ (v2 + 1)) ∧ (((v2 + 1) : Int) ≤ 2147483647)) := by omega
theorem om_04636d07b61a {v0 : Int} (h0 : (v0 : Int) = 3) (h1 : (v0 : Int) = 13) : False := by omega
theorem om_047d18a7ea93 {v0 v2 v3 : Int} {v1 : Nat} (h0 : (v0 : Int) = ((v1 : Nat) : Int)) (h1 : (v2 : Int) = v0) (h2 : (v3 : Int) = v2) : (v3 : Int) = ((v1 : Nat) : Int) := by omega
theorem om_04b235ff4c9d {v0 v1 v2 : Int} (h0 : (v0 : Int) ≤ 300) (h1 : (0 : Int) ≤ v1) (h2 : (v1 : Int) ≤ v2) (h3 : (v2 : Int) < v0) : ((((-2147483648) : Int) ≤ (v1 + 1)) ∧ (((v1 + 1) : Int) ≤ 2147483647)) := by omega
theorem om_04dbafc35f9b {v1 : Int} {v0 : Nat} (h0 : (((v0 : Nat) : Int) : Int) = v1) (h1 : (v1 : Int) ≤ 1) : (((10000 * ((v0 : Nat) : Int)) + 10000) : Int) ≤ 20000 := by omega
theorem om_04fdc93a998b {v0 v1 : Int} {v2 : Nat} : (((v0 - v1) + ((v2 : Nat) : Int)) : Int) ≤ ((v0 - v1) + ((v2 : Nat) : Int)) := by omega
theorem om_05088dda93b7 {v0 : Int} (h0 : (v0 : Int) ≠ 1) (h1 : (v0 : Int) = 1) : False := by omega
theorem om_0520d8737a12 {v0 v1 : Int} (h0 : (0 : Int) ≤ v0) (h1 : (v1 : Int) = (-1)) : (v1 : Int) < v0 := by omega
theorem om_052587c8d6bd {v0 v1 v2 : Int} (h0 : (0 : Int) ≤ v0) (h1 : (0 : Int) ≤ v1) (h2 : (v2 : Int) = (v0 + v1)) : (0 : Int) ≤ v2 := by omega
theorem om_05ac0279a2aa {v0 : Nat} : (((8 + (3 + 11)) + 21) : Nat) ≤ ((300 * v0) + 500) := by omega
theorem om_05b2ab89c241 {v0 v1 v2 v3 v4 : Int} (h0 : (0 : Int) ≤ v0) (h1 : (v0 : Int) ≤ 1) (h2 : (v1 : Int) ≤ 24) (h3 : (v2 : Int) = v1) (h4 : (0 : Int) ≤ v3) (h5 : (v3 : Int) < v2) (h6 : (v4 : Int) = (24 * v0)) : ((((-2147483648) : Int) ≤ (v4 + v3)) ∧ (((v4 + v3) : Int) ≤ 2147483647)) := by omega
theorem om_05dd9745e50f {v0 : Nat} : ((((10 * v0) + 12) + 1) : Nat) ≤ ((10 * v0) + 13) := by omega
theorem om_05e50ff0fdfa {v0 : Nat} : ((((10 * v0) + 11) + 1) : Nat) ≤ ((10 * v0) + 12) := by omega
theorem om_060020a18876 {v0 : Int} (h0 : (v0 : Int) = 0) : (((v0 + (400 * 10)) + 30) : Int) ≤ 19000 := by omega
theorem om_064febd7b2a5 {v0 v2 v3 : Int} {v1 : Nat} (h0 : (v0 : Int) = ((v1 : Nat) : Int)) (h1 : (v2 : Int) = (v0 + 1)) (h2 : (v3 : Int) = v2) : (v3 : Int) = (((v1 + 1) : Nat) : Int) := by omega
theorem om_066e5aa453d3 {v0 v1 v2 v3 v4 v5 : Int} (h0 : (v0 : Int) = v1) (h1 : (v0 : Int) ≤ v2) (h2 : (v2 : Int) ≤ v3) (h3 : (v4 : Int) = v3) (h4 : (v1 : Int) = (v5 + 1)) : (v5 : Int) ≤ v4 := by omega
theorem om_06e2b0ec535d {v0 : Int} (h0 : (0 : Int) ≤ v0) (h1 : (v0 : Int) ≤ 10) (h2 : (v0 : Int) ≠ 10) : ((((-2147483648) : Int) ≤ (v0 + 1)) ∧ (((v0 + 1) : Int) ≤ 2147483647)) := by omega
theorem om_06e8b4467060 {v0 : Int} (h0 : (1 : Int) ≤ v0) (h1 : (v0 : Int) ≤ 40) (h2 : (v0 : Int) ≠ 40) : ((((-2147483648) : Int) ≤ (v0 + 1)) ∧ (((v0 + 1) : Int) ≤ 2147483647)) := by omega
theorem om_075609a9a6ff {v0 v1 v2 v3 v4 v5 v6 v7 v8 v9 v10 v11 v12 : Int} (h0 : (v0 : Int) = v1) (h1 : (v2 : Int) = v3) (h2 : (v4 : Int) = v5) (h3 : (((v6 - v7) - v8) : Int) ≤ ((v2 - v4) - v0)) (h4 : (v9 : Int) = v8) (h5 : (v10 : Int) = v7) (h6 : (v11 : Int) = v6) (h7 : (v5 : Int) = (v12 + 1)) : (((v11 - v10) - v9) : Int) ≤ ((v3 - v12) - v1) := by omega
theorem om_077856169b30 {v0 v2 v3 v4 v6 v9 : Int} {v1 v5 v7 v8 : Nat} (h0 : (v0 : Int) ≤ 999000) (h1 : (v1 : Nat) ≤ 24) (h2 : (v2 : Int) ≤ 8) (h3 : (v3 : Int) < v2) (h4 : (((v4 + (192 * ((v5 : Nat) : Int))) + 192) : Int) ≤ ((v0 + (24 * v3)) + v6)) (h5 : (((v7 : Nat) : Int) : Int) = v6) (h6 : (v7 : Nat) < v1) (h7 : (v8 : Nat) = v5) (h8 : (v9 : Int) = v4) : ((v9 + (192 * ((v8 : Nat) : Int))) : Int) ≤ 999000 := by omega
theorem om_081698dbc30d {v0 : Nat} : ((0 + 1) : Nat) ≤ ((10 * v0) + 11) := by omega
theorem om_0850c42f4b69 {v0 v1 : Int} (h0 : (v0 : Int) ≤ 56) (h1 : (0 : Int) ≤ v0) (h2 : (v1 : Int) = (v0 + (-8))) : ((((-8) : Int) ≤ v1) ∧ ((v1 : Int) ≤ 56)) := by omega
theorem om_086aaa362f20 {v0 v1 : Int} (h0 : (v0 : Int) ≤ 2048) (h1 : (0 : Int) < v0) (h2 : (v1 : Int) = (v0 - 1)) : (((0 : Int) ≤ v1) ∧ ((v1 : Int) ≤ 2048)) := by omega
theorem om_08a271bb3383 {v0 : Nat} (h0 : (v0 : Nat) = 20) : (v0 : Nat) = 20 := by omega
theorem om_08cf71117b87 {v0 : Int} (h0 : (v0 : Int) = 1) (h1 : (v0 : Int) = 12) : False := by omega
theorem om_08cfb15675cc {v0 v1 : Int} {v2 : Nat} (h0 : (v0 : Int) ≤ 12) (h1 : (v1 : Int) < v0) (h2 : (((v2 : Nat) : Int) : Int) = v1) : ((((-1) : Int) ≤ v1) ∧ ((v1 : Int) ≤ 11)) := by omega
theorem om_08d03cbe88fe {v0 v1 : Nat} (h0 : (((v0 : Nat) : Int) : Int) = (10000 * ((v1 : Nat) : Int))) : (((v0 : Nat) : Int) : Int) = (10000 * ((v1 : Nat) : Int)) := by omega
theorem om_08e0c9701055 {v0 : Int} {v1 : Nat} (h0 : (v0 : Int) = ((v1 : Nat) : Int)) : (v0 : Int) = ((v1 : Nat) : Int) := by omega
theorem om_08e1aa59793b {v0 : Int} (h0 : (0 : Int) ≤ v0) (h1 : (v0 : Int) < 12) : (((0 : Int) ≤ v0) ∧ ((v0 : Int) ≤ 11)) := by omega
theorem om_08f499607dd2 {v0 v2 v3 : Int} {v1 : Nat} (h0 : (v0 : Int) = ((v1 : Nat) : Int)) (h1 : (v1 : Nat) ≤ 24) (h2 : (v2 : Int) = v0) (h3 : (0 : Int) ≤ v3) (h4 : (v3 : Int) < v2) : ((((-2147483648) : Int) ≤ (v3 + 1)) ∧ (((v3 + 1) : Int) ≤ 2147483647)) := by omega
theorem om_0916ac166aa8 {v0 : Int} (h0 : (0 : Int) ≤ v0) (h1 : (v0 : Int) ≤ 19) : (((0 : Int) ≤ v0) ∧ ((v0 : Int) ≤ 19)) := by omega
theorem om_0922b674e298 {v0 : Int} (h0 : (v0 : Int) = 4) : (((1 : Int) ≤ v0) ∧ ((v0 : Int) ≤ 11)) := by omega
theorem om_0934def82ed5 {v0 v1 : Int} (h0 : (v0 : Int) ≤ 39) (h1 : (0 : Int) < v0) (h2 : (v1 : Int) = (v0 + (-1))) : (((0 : Int) ≤ v1) ∧ ((v1 : Int) ≤ 39)) := by omega
theorem om_0975071f571e {v0 : Int} (h0 : (0 : Int) ≤ v0) (h1 : (v0 : Int) < 100) : ((((-2147483648) : Int) ≤ (24 * v0)) ∧ (((24 * v0) : Int) ≤ 2147483647)) := by omega
theorem om_097b5fa772dd {v0 : Nat} : ((((136 + (1 * v0)) + 1) + 0) : Nat) ≤ (136 + (1 * (v0 + 1))) := by omega
theorem om_09885ab343b9 {v0 : Int} (h0 : (1 : Int) ≤ v0) (h1 : (v0 : Int) = 0) : False := by omega
theorem om_09f04ade55c7 {v0 : Int} {v1 v2 : Nat} (h0 : ((300 - v0) : Int) ≤ ((v1 : Nat) : Int)) (h1 : (v0 : Int) ≤ 300) : (((8 + (6 + 11)) + 69) : Nat) ≤ (((100 * v1) + (1000 * v2)) + 620) := by omega
theorem om_09f46f70eb03 {v0 v1 v2 v3 v4 : Int} (h0 : (v0 : Int) = (16 * v1)) (h1 : (v2 : Int) = (v3 + v0)) (h2 : (v4 : Int) = v2) : (v4 : Int) = (v3 + (16 * v1)) := by omega
theorem om_0a6826126846 {v0 v1 : Int} (h0 : (v0 : Int) = 0) (h1 : (v1 : Int) = v0) : (((v1 + (400 * 10)) + 30) : Int) ≤ 19000 := by omega
theorem om_0a9f674b9c43 {v0 : Int} (h0 : ((-1) : Int) ≤ v0) (h1 : (v0 : Int) ≤ 299) (h2 : (v0 : Int) ≠ (-1)) : ((((-1) : Int) ≤ v0) ∧ ((v0 : Int) ≤ 299)) := by omega
theorem om_0abcda13baee {v0 : Int} (h0 : (0 : Int) ≤ v0) (h1 : (v0 : Int) ≠ 0) (h2 : (v0 : Int) = 0) : False := by omega
theorem om_0ac97177ca45 {v0 v1 v2 v3 : Int} (h0 : (v0 : Int) = v1) (h1 : (v2 : Int) ≤ (8051 - (6 * v0))) (h2 : (v3 : Int) = v2) : (v3 : Int) ≤ (8052 - (6 * v1)) := by omega
theorem om_0ad81450c1c5 {v0 v1 : Int} (h0 : (v0 : Int) ≤ 400) (h1 : (400 : Int) ≤ v0) (h2 : (v1 : Int) = v0) : ((399 + 1) : Int) = v1 := by omega
theorem om_0af9c8bac061 {v0 v1 v2 v3 : Int} (h0 : (v0 : Int) ≤ 4000) (h1 : (0 : Int) ≤ v1) (h2 : ((v1 + v2) : Int) = v3) (h3 : (v3 : Int) < v0) (h4 : (9 : Int) ≤ v2) : ((((-2147483648) : Int) ≤ (v3 + 1)) ∧ (((v3 + 1) : Int) ≤ 2147483647)) := by omega
theorem om_0b527a4cb17e {v0 v1 : Int} (h0 : (0 : Int) ≤ v0) (h1 : (v0 : Int) < v1) (h2 : (v1 : Int) ≤ 300) : ((((-2147483648) : Int) ≤ (8 * v0)) ∧ (((8 * v0) : Int) ≤ 2147483647)) := by omega
theorem om_0b900c0d4bfb {v0 v1 : Int} (h0 : (0 : Int) ≤ v0) (h1 : (v0 : Int) ≤ 1) (h2 : (v1 : Int) = (1 - v0)) : ((((-2147483648) : Int) ≤ (10000 * v1)) ∧ (((10000 * v1) : Int) ≤ 2147483647)) := by omega
theorem om_0bb971ab4ffe {v0 : Nat} : (v0 : Nat) < (v0 + 1) := by omega
theorem om_0be7ea43cf85 {v0 v1 : Int} (h0 : (v0 : Int) ≤ 4) (h1 : (0 : Int) ≤ v1) (h2 : (v1 : Int) < v0) : (((0 : Int) ≤ v1) ∧ ((v1 : Int) ≤ 3)) := by omega
theorem om_0c238ee0b847 {v0 : Int} (h0 : (v0 : Int) = 999999999) : ((((-1) : Int) ≤ v0) ∧ ((v0 : Int) ≤ 999999999)) := by omega
theorem om_0c293f40b76f {v1 v2 : Int} {v0 : Nat} (h0 : (((v0 : Nat) : Int) : Int) ≤ (84 * v1)) (h1 : (v2 : Int) = v1) : (((v0 : Nat) : Int) : Int) ≤ (84 * v2) := by omega
theorem om_0c38e7fea7ec {v0 v1 v2 v3 v5 : Int} {v4 : Nat} (h0 : (0 : Int) ≤ v0) (h1 : (v1 : Int) = v2) (h2 : (v3 : Int) ≤ ((v4 : Nat) : Int)) (h3 : ((v1 + 1) : Int) ≤ v3) (h4 : ((v5 + 1) : Int) ≤ v2) (h5 : ((v0 + 1) : Int) ≤ v5) : (((0 : Int) ≤ v3) ∧ ((v3 : Int) ≤ ((v4 : Nat) : Int))) := by omega
theorem om_0c9e0661e853 {v0 v3 v4 : Int} {v1 v2 : Nat} (h0 : (v0 : Int) = ((v1 : Nat) : Int)) (h1 : (v1 : Nat) ≤ 24) (h2 : (v2 : Nat) < v1) (h3 : (0 : Int) ≤ v3) (h4 : (v3 : Int) ≤ ((v2 : Nat) : Int)) (h5 : (v4 : Int) = (v0 - v3)) : (((0 : Int) ≤ v4) ∧ ((v4 : Int) ≤ 24)) := by omega
theorem om_0cac171fa40c {v1 v2 : Int} {v0 : Nat} (h0 : ((((v0 : Nat) : Int) + 1) : Int) = v1) (h1 : (v2 : Int) = v1) : (1 : Int) ≤ v2 := by omega
theorem om_0cc6435ef36f {v0 v1 : Int} (h0 : (v0 : Int) = 1) (h1 : (v1 : Int) = v0) : (1 : Int) ≤ v1 := by omega
theorem om_0cd2b4461ca0 {v0 v2 : Int} {v1 : Nat} (h0 : (v0 : Int) = ((v1 : Nat) : Int)) (h1 : (v1 : Nat) ≤ 24) (h2 : (0 : Int) ≤ v2) (h3 : (v2 : Int) < v0) : (((0 : Int) ≤ v2) ∧ ((v2 : Int) ≤ 23)) := by omega
theorem om_0ce00a919daf {v0 : Int} {v1 : Nat} (h0 : (v0 : Int) ≤ 8) (h1 : ((8 - v0) : Int) ≤ ((v1 : Nat) : Int)) : (((8 + (1 + 11)) + 0) : Nat) ≤ ((300 * v1) + 210) := by omega
theorem om_0cf984c4e1bd {v0 v1 v2 v3 : Int} {v4 : Nat} (h0 : (v0 : Int) = 0) (h1 : (0 : Int) ≤ v1) (h2 : ((v1 + 1) : Int) ≤ v2) (h3 : (v3 : Int) ≤ ((v4 : Nat) : Int)) (h4 : ((v2 + 1) : Int) ≤ v3) : (((0 : Int) ≤ v3) ∧ ((((v3 : Int) ≤ ((v4 : Nat) : Int)) ∧ ((((v0 : Int) = 0) ∧ (((v1 + 1) : Int) ≤ v3)))))) := by omega
theorem om_0d23cfa2d5c1 {v0 v1 v2 : Int} (h0 : (0 : Int) ≤ v0) (h1 : (v1 : Int) ≤ 300) (h2 : (v0 : Int) < v1) (h3 : (v2 : Int) = (v0 + 1)) : (((0 : Int) ≤ v2) ∧ ((v2 : Int) ≤ 300)) := by omega
theorem om_0d5c93fca766 {v0 v1 : Int} (h0 : (1 : Int) ≤ v0) (h1 : (v0 : Int) ≤ 40) (h2 : (v0 : Int) ≠ 40) (h3 : (v1 : Int) = (v0 + 1)) : (((1 : Int) ≤ v1) ∧ ((v1 : Int) ≤ 40)) := by omega
theorem om_0dd956f67d11 {v0 v1 v2 v3 v4 : Int} (h0 : (0 : Int) ≤ v0) (h1 : (v1 : Int) = 0) (h2 : (v2 : Int) = v0) (h3 : (v3 : Int) = 0) (h4 : (v4 : Int) = v1) : (((v3 - v4) - v2) : Int) ≤ 1000000000 := by omega
theorem om_0df9ae17f00b {v0 v1 : Int} (h0 : (v0 : Int) = 0) (h1 : (v1 : Int) = 0) : (v1 : Int) ≤ v0 := by omega
theorem om_0e318805f41c {v0 v1 v2 v3 v4 v5 v6 v7 v8 : Int} (h0 : (((v0 - v1) - v2) : Int) ≤ 1000000000) (h1 : (((v3 - v4) - v5) : Int) ≤ ((v0 - v1) - v2)) (h2 : (v6 : Int) = (v3 + 1)) (h3 : (v7 : Int) = v5) (h4 : (v8 : Int) = v4) : (((v6 - v8) - v7) : Int) ≤ 1000000001 := by omega
theorem om_0e452b09dbca {v0 : Int} (h0 : (v0 : Int) = 1) (h1 : (v0 : Int) ≤ 0) : False := by omega
theorem om_0e608cc4b4f6 {v0 : Int} (h0 : (0 : Int) ≤ v0) (h1 : (v0 : Int) ≤ 0) (h2 : (v0 : Int) ≠ 0) : False := by omega
theorem om_0e62abf75189 {v0 : Int} {v1 : Nat} (h0 : (v0 : Int) ≤ 0) (h1 : (((v1 : Nat) : Int) : Int) = v0) : (v1 : Nat) < 12 := by omega
theorem om_0e6884a4aac7 {v1 : Int} {v0 v2 : Nat} (h0 : (((v0 : Nat) : Int) : Int) ≤ (84 * v1)) (h1 : (v2 : Nat) = (0 + v0)) : (((v2 : Nat) : Int) : Int) ≤ (84 * v1) := by omega
theorem om_0e6efa04542f {v0 v1 v2 v3 v4 v5 v6 v7 v8 v9 : Int} (h0 : ((v0 - v1) : Int) ≤ (v2 - v3)) (h1 : (v4 : Int) = v2) (h2 : (v5 : Int) = v0) (h3 : ((v6 - v5) : Int) ≤ (v7 - v4)) (h4 : (v8 : Int) = v7) (h5 : (v9 : Int) = v6) : ((v9 - v1) : Int) ≤ (v8 - v3) := by omega
theorem om_0e8c92b17c6f {v0 : Int} (h0 : (v0 : Int) = 4) (h1 : (v0 : Int) = 15) : False := by omega
theorem om_0e975414c0c5 {v0 v1 v2 : Nat} (h0 : (v0 : Nat) < 2) (h1 : (v1 : Nat) = ((5 * v0) + v2)) (h2 : (v2 : Nat) < 5) : (v1 : Nat) < 10 := by omega
theorem om_0f1fccd66da8 {v0 : Int} (h0 : (v0 : Int) = 4) (h1 : (v0 : Int) = 13) : False := by omega
theorem om_0f4004050cf0 {v0 v1 : Int} (h0 : (v0 : Int) ≤ 8) (h1 : (v1 : Int) = v0) : (v1 : Int) ≤ 8 := by omega
theorem om_0f5e47603107 {v0 v2 v3 v4 : Int} {v1 : Nat} (h0 : (v0 : Int) = ((v1 : Nat) : Int)) (h1 : (v1 : Nat) ≤ 24) (h2 : (0 : Int) ≤ v2) (h3 : (v2 : Int) ≤ v3) (h4 : (v3 : Int) < v0) (h5 : (v4 : Int) = (v0 - v2)) : (((0 : Int) ≤ v4) ∧ ((v4 : Int) ≤ 24)) := by omega
theorem om_0f7fda923432 {v0 : Int} {v1 : Nat} (h0 : (v0 : Int) ≤ 7) (h1 : ((7 - v0) : Int) ≤ ((v1 : Nat) : Int)) : (((8 + (3 + 11)) + 0) : Nat) ≤ ((300 * v1) + 265) := by omega
theorem om_0fa10e9e3498 {v0 v1 : Int} {v2 v3 : Nat} (h0 : (v0 : Int) ≤ 250000) (h1 : (v1 : Int) = ((v2 : Nat) : Int)) (h2 : (v1 : Int) ≤ v0) (h3 : (v3 : Nat) = (2 * v2)) (h4 : (v0 : Int) < ((v3 : Nat) : Int)) : ((((-2147483648) : Int) ≤ (v0 + 1)) ∧ (((v0 + 1) : Int) ≤ 2147483647)) := by omega
theorem om_0fc53bc74133 {v0 v1 : Nat} : (((8 + (6 + 11)) + (((100 * v0) + (1000 * v1)) + 560)) : Nat) ≤ (((100 * v0) + (1000 * v1)) + 590) := by omega
theorem om_0fcd3dacd231 {v0 : Int} (h0 : ((-1) : Int) ≤ v0) (h1 : (v0 : Int) ≤ 299) : ((((-1) : Int) ≤ v0) ∧ ((v0 : Int) ≤ 299)) := by omega
theorem om_1002fbb0e07a {v0 v1 v3 : Int} {v2 : Nat} (h0 : (v0 : Int) ≤ 299) (h1 : (0 : Int) ≤ v1) (h2 : (v1 : Int) ≤ 7) (h3 : (((v2 : Nat) : Int) : Int) = v0) (h4 : (v3 : Int) = (8 * v0)) : ((((-2147483648) : Int) ≤ (v3 + v1)) ∧ (((v3 + v1) : Int) ≤ 2147483647)) := by omega
theorem om_101a603fc44b {v0 v1 : Int} (h0 : (0 : Int) ≤ v0) (h1 : (v0 : Int) ≤ 300) (h2 : (v1 : Int) = (v0 + 0)) : (((0 : Int) ≤ v1) ∧ ((v1 : Int) ≤ 300)) := by omega
theorem om_10aaac3409ba {v0 : Int} (h0 : (0 : Int) ≤ v0) (h1 : (v0 : Int) ≤ 8) : (((0 : Int) ≤ v0) ∧ ((v0 : Int) ≤ 8)) := by omega
theorem om_10ca3b530507 {v0 v1 : Int} (h0 : (v0 : Int) = v1) (h1 : (0 : Int) ≤ v1) (h2 : (v1 : Int) ≤ 300) : ((((-2147483648) : Int) ≤ (v0 + 1)) ∧ (((v0 + 1) : Int) ≤ 2147483647)) := by omega
theorem om_1110d94c3a3f {v0 v1 v2 v3 v4 v5 : Int} (h0 : (0 : Int) ≤ v0) (h1 : (0 : Int) ≤ v1) (h2 : (v1 : Int) ≤ 10000) (h3 : (v2 : Int) = (v1 + v0)) (h4 : (v3 : Int) = v0) (h5 : (v4 : Int) = 0) (h6 : (v5 : Int) ≤ (8051 - (6 * v4))) (h7 : (v3 : Int) ≤ v5) : (((0 : Int) ≤ v2) ∧ ((v2 : Int) ≤ 20000)) := by omega
theorem om_1128ec7f83cd {v0 v1 v2 : Int} (h0 : (0 : Int) ≤ v0) (h1 : (v0 : Int) ≤ v1) (h2 : (v2 : Int) ≤ 300) (h3 : (v1 : Int) < v2) : ((((-2147483648) : Int) ≤ (v1 + 1)) ∧ (((v1 + 1) : Int) ≤ 2147483647)) := by omega
theorem om_11330e6930eb {v0 : Int} {v1 v2 : Nat} (h0 : ((v0 + ((v1 : Nat) : Int)) : Int) ≤ ((v2 : Nat) : Int)) : ((v0 + ((v1 : Nat) : Int)) : Int) ≤ ((v2 : Nat) : Int) := by omega
theorem om_11587583f9f8 {v0 v1 v2 v3 : Int} (h0 : (0 : Int) ≤ v0) (h1 : (0 : Int) ≤ v1) (h2 : (v2 : Int) = (24 * v1)) (h3 : (v3 : Int) = (v2 + v0)) : (0 : Int) ≤ v3 := by omega
theorem om_118454f04e3b {v0 : Int} (h0 : (1 : Int) ≤ v0) (h1 : (v0 : Int) ≤ 16777215) : ((((-2147483648) : Int) ≤ (v0 - 1)) ∧ (((v0 - 1) : Int) ≤ 2147483647)) := by omega
theorem om_1194ef72f15b {v0 : Int} (h0 : (0 : Int) ≤ v0) (h1 : (v0 : Int) ≤ 4000) : (((0 : Int) ≤ v0) ∧ ((v0 : Int) ≤ 4000)) := by omega
theorem om_121196fbbf98 {v0 : Int} (h0 : (v0 : Int) ≤ 2) (h1 : (v0 : Int) ≠ 1) (h2 : (0 : Int) < v0) : (((0 : Int) ≤ v0) ∧ ((v0 : Int) ≤ 2)) := by omega
theorem om_122d4d21d372 {v0 v1 : Int} (h0 : (v0 : Int) < v1) : (v0 : Int) ≤ v1 := by omega
theorem om_122f9e27b6dc {v0 v1 v2 v3 v4 v5 : Int} (h0 : (0 : Int) ≤ v0) (h1 : (v1 : Int) ≤ 23) (h2 : (0 : Int) ≤ v2) (h3 : (v2 : Int) < 100) (h4 : (v0 : Int) ≤ v3) (h5 : (v3 : Int) ≤ v1) (h6 : (v4 : Int) = (v2 * 24)) (h7 : (v5 : Int) = (v4 + v3)) : ((((-2147483648) : Int) ≤ (v5 - v0)) ∧ (((v5 - v0) : Int) ≤ 2147483647)) := by omega
theorem om_123f6b64eb1c {v0 v1 v2 v3 v4 : Int} (h0 : (v0 : Int) ≤ v1) (h1 : (v2 : Int) = (v1 + 1)) (h2 : (v3 : Int) = v2) (h3 : (v4 : Int) = v0) : (v4 : Int) ≤ v3 := by omega
theorem om_125513867ad6 {v1 v2 v3 v4 v5 : Int} {v0 : Nat} (h0 : (((v0 : Nat) : Int) : Int) = v1) (h1 : (v2 : Int) = (10000 * ((v0 : Nat) : Int))) (h2 : (v2 : Int) ≤ 10000) (h3 : (v3 : Int) = (24 * v1)) (h4 : (0 : Int) ≤ v4) (h5 : (v4 : Int) ≤ 24) (h6 : (v5 : Int) = (v3 + v4)) (h7 : (v4 : Int) ≠ 24) : ((((-2147483648) : Int) ≤ (24 * v5)) ∧ (((24 * v5) : Int) ≤ 2147483647)) := by omega
theorem om_12576e152d6f {v0 v1 : Nat} : (((((4 * v0) + (40 * v1)) + 10) + 1) : Nat) ≤ (((4 * v0) + (40 * v1)) + 11) := by omega
theorem om_1257dc0753d6 {v0 v1 v2 v3 v4 : Int} (h0 : (v0 : Int) < v1) (h1 : (v2 : Int) = (v0 + 1)) (h2 : (v3 : Int) = v1) (h3 : (v4 : Int) = v2) : (v4 : Int) ≤ v3 := by omega
theorem om_1262b88fa4cf {v0 v1 v2 v3 : Int} (h0 : (0 : Int) ≤ v0) (h1 : (v0 : Int) ≤ 10) (h2 : (v0 : Int) ≠ 10) (h3 : (v1 : Int) = (v0 + 1)) (h4 : (v2 : Int) = v1) (h5 : (v3 : Int) = v2) : ((((-2147483648) : Int) ≤ (v3 - 1)) ∧ (((v3 - 1) : Int) ≤ 2147483647)) := by omega
theorem om_12cf676bc652 {v0 v1 : Int} (h0 : (0 : Int) ≤ v0) (h1 : (v0 : Int) ≤ v1) : (0 : Int) ≤ v1 := by omega
theorem om_12f829fe3ab5 {v0 v1 v2 : Int} (h0 : (v0 : Int) ≤ 12) (h1 : (v1 : Int) ≤ (v0 - 1)) (h2 : (0 : Int) ≤ v1) (h3 : (v2 : Int) = (v1 + (-1))) : ((((-1) : Int) ≤ v2) ∧ ((v2 : Int) ≤ 11)) := by omega
theorem om_131508619fed {v0 v1 v2 v3 v4 v5 v6 v7 v8 v9 v10 v11 v12 v13 v14 : Int} (h0 : (v0 : Int) = v1) (h1 : (v2 : Int) = v3) (h2 : (v4 : Int) = v5) (h3 : (v6 : Int) = v7) (h4 : (((v8 + v9) - v7) : Int) ≤ ((v4 + v0) - v2)) (h5 : (v10 : Int) = v9) (h6 : (v11 : Int) = v8) (h7 : (((v12 + v13) - v14) : Int) ≤ ((v11 + v10) - v6)) : (((v12 + v13) - v14) : Int) ≤ ((v5 + v1) - v3) := by omega
theorem om_137426e8bfd2 {v0 v1 : Int} (h0 : (v0 : Int) < 12) (h1 : (0 : Int) ≤ v1) (h2 : (v1 : Int) < v0) : (((0 : Int) ≤ v1) ∧ ((v1 : Int) ≤ 11)) := by omega
theorem om_138b22ee2afd {v0 v1 v2 : Int} (h0 : (v0 : Int) = v1) (h1 : (v2 : Int) = v0) : ((v2 + 1) : Int) = (v1 + 1) := by omega
theorem om_139e70ed6b2e {v0 v2 v3 v4 : Int} {v1 : Nat} (h0 : (v0 : Int) = ((v1 : Nat) : Int)) (h1 : (v2 : Int) = v0) (h2 : (v3 : Int) < v2) (h3 : (v4 : Int) = (v3 + 1)) : (v4 : Int) ≤ ((v1 : Nat) : Int) := by omega
theorem om_13a3c19efcb1 {v0 : Int} (h0 : (v0 : Int) = 3) (h1 : (v0 : Int) = 12) : False := by omega
theorem om_13ba01c174fe {v0 : Int} (h0 : (0 : Int) ≤ v0) (h1 : (v0 : Int) ≤ 39) : (((0 : Int) ≤ v0) ∧ ((v0 : Int) ≤ 39)) := by omega
theorem om_1496522b7eb5 {v0 v2 : Int} {v1 : Nat} (h0 : (v0 : Int) = ((v1 : Nat) : Int)) (h1 : (v1 : Nat) ≤ 24) (h2 : (0 : Int) ≤ v2) (h3 : (v2 : Int) < v0) : ((((-2147483648) : Int) ≤ (v2 + 1)) ∧ (((v2 + 1) : Int) ≤ 2147483647)) := by omega
theorem om_1499017b39b7 {v0 v1 : Int} (h0 : (0 : Int) ≤ v0) (h1 : (v0 : Int) ≠ 0) (h2 : (v1 : Int) = v0) : (1 : Int) ≤ v1 := by omega
theorem om_14c2878ed4e2 {v0 v1 : Int} (h0 : (0 : Int) ≤ v0) (h1 : (v0 : Int) ≤ 24) (h2 : (v0 : Int) ≠ 24) (h3 : (v1 : Int) = (v0 + 1)) : (((0 : Int) ≤ v1) ∧ ((v1 : Int) ≤ 24)) := by omega
theorem om_14e1582db31a {v0 v1 v2 : Int} (h0 : (0 : Int) ≤ v0) (h1 : (v0 : Int) ≠ 0) (h2 : (v1 : Int) = v0) (h3 : (v2 : Int) = v1) : (1 : Int) ≤ v2 := by omega
theorem om_14f593a12ed5 {v0 v1 : Int} {v2 : Nat} (h0 : ((-1) : Int) ≤ v0) (h1 : (v0 : Int) < v1) (h2 : (v2 : Nat) = 20) (h3 : (v0 : Int) ≠ (-1)) (h4 : (v1 : Int) ≤ ((v2 : Nat) : Int)) : ((((-1) : Int) ≤ v0) ∧ ((v0 : Int) ≤ 19)) := by omega
theorem om_1531b20f57e1 {v0 : Int} (h0 : (v0 : Int) = 0) : (0 : Int) ≤ v0 := by omega
theorem om_153aeb4c9666 {v1 : Int} {v0 : Nat} (h0 : (v0 : Nat) = 1) (h1 : (v1 : Int) = 1) : (v1 : Int) = ((v0 : Nat) : Int) := by omega
theorem om_157c73f4d754 {v0 v1 v2 v3 v4 : Int} (h0 : (v0 : Int) ≤ v1) (h1 : (v2 : Int) ≤ 8) (h2 : (v1 : Int) < v2) (h3 : (v3 : Int) = (v1 + 1)) (h4 : (v4 : Int) = v3) : (((v0 : Int) ≤ v4) ∧ ((v4 : Int) ≤ 8)) := by omega
theorem om_1580a9d076a5 {v0 v2 v3 v4 : Int} {v1 : Nat} (h0 : ((300 - v0) : Int) ≤ ((v1 : Nat) : Int)) (h1 : (v2 : Int) = (v0 + 1)) (h2 : (v3 : Int) = v2) (h3 : (v3 : Int) ≤ v4) : ((300 - v4) : Int) ≤ ((v1 : Nat) : Int) := by omega
theorem om_158d44350c37 {v0 v2 v3 v4 v5 v6 : Int} {v1 : Nat} (h0 : (v0 : Int) = ((v1 : Nat) : Int)) (h1 : (v1 : Nat) ≤ 24) (h2 : (0 : Int) ≤ v2) (h3 : (v2 : Int) ≤ 1) (h4 : (v3 : Int) = v0) (h5 : (0 : Int) ≤ v4) (h6 : (v4 : Int) < v3) (h7 : (v5 : Int) = (24 * v2)) (h8 : (v6 : Int) = (v5 + v4)) : ((((-2147483648) : Int) ≤ (8 * v6)) ∧ (((8 * v6) : Int) ≤ 2147483647)) := by omega
theorem om_15c988ad5bcd {v0 v1 v2 : Int} (h0 : (v0 : Int) ≤ v1) (h1 : (0 : Int) ≤ v2) (h2 : (v2 : Int) < v0) (h3 : (v1 : Int) ≤ 8) : (((0 : Int) ≤ v2) ∧ ((v2 : Int) ≤ 7)) := by omega
theorem om_162fc0655431 {v0 : Int} {v1 : Nat} (h0 : (v0 : Int) ≤ 7) (h1 : ((7 - v0) : Int) ≤ ((v1 : Nat) : Int)) : ((1 + 1) : Nat) ≤ ((10 * v1) + 10) := by omega
theorem om_162ff93d9492 {v0 v2 v3 v4 v5 v6 v7 v8 v9 : Int} {v1 : Nat} (h0 : (v0 : Int) = ((v1 : Nat) : Int)) (h1 : (v1 : Nat) ≤ 24) (h2 : (0 : Int) ≤ v2) (h3 : (v2 : Int) ≤ 1) (h4 : (v3 : Int) = v0) (h5 : (0 : Int) ≤ v4) (h6 : (v4 : Int) < v3) (h7 : (0 : Int) ≤ v5) (h8 : (v6 : Int) ≤ 8) (h9 : (v5 : Int) < v6) (h10 : (v7 : Int) = (24 * v2)) (h11 : (v8 : Int) = (v7 + v4)) (h12 : (v9 : Int) = (8 * v8)) : ((((-2147483648) : Int) ≤ (v9 + v5)) ∧ (((v9 + v5) : Int) ≤ 2147483647)) := by omega
theorem om_16349a3b702f {v1 v2 v3 : Int} {v0 v4 : Nat} (h0 : (((v0 : Nat) : Int) : Int) ≤ (84 * v1)) (h1 : (v2 : Int) = v1) (h2 : (v3 : Int) = v2) (h3 : (v4 : Nat) = (0 + v0)) : (((v4 : Nat) : Int) : Int) ≤ (84 * v3) := by omega
theorem om_16510be3f873 {v0 : Int} (h0 : (v0 : Int) = 14) (h1 : (v0 : Int) = 13) : False := by omega
theorem om_1656cef72499 {v0 : Int} {v1 : Nat} (h0 : ((8 - v0) : Int) ≤ ((v1 : Nat) : Int)) : ((8 - v0) : Int) ≤ ((v1 : Nat) : Int) := by omega
theorem om_1683672f2aa1 {v0 v1 v2 : Int} (h0 : (0 : Int) ≤ v0) (h1 : (v0 : Int) ≤ 1) (h2 : (v1 : Int) = (24 * v0)) (h3 : (0 : Int) ≤ v2) (h4 : (v2 : Int) ≤ 24) : ((((-2147483648) : Int) ≤ (v1 + v2)) ∧ (((v1 + v2) : Int) ≤ 2147483647)) := by omega
theorem om_16973c22d95d {v0 v1 v2 : Nat} (h0 : ((((v0 : Nat) : Int) + 1) : Int) ≤ ((v1 : Nat) : Int)) (h1 : (v2 : Nat) = v0) : ((((v2 : Nat) : Int) + 1) : Int) ≤ ((v1 : Nat) : Int) := by omega
theorem om_16c3656e2818 {v0 v1 v2 : Nat} (h0 : (((v0 : Nat) : Int) : Int) ≤ ((v1 : Nat) : Int)) (h1 : ((((v2 : Nat) : Int) + 1) : Int) ≤ ((v0 : Nat) : Int)) : (((8 + (4 + 11)) + 23) : Nat) ≤ ((300 * v1) + 260) := by omega
theorem om_16d1a7c24be6 {v0 v1 : Int} (h0 : (v0 : Int) ≤ v1) (h1 : (0 : Int) ≤ v0) (h2 : (v1 : Int) ≤ 300) : (((0 : Int) ≤ v0) ∧ ((v0 : Int) ≤ 300)) := by omega
theorem om_16d20ee2fa05 {v0 v1 v2 v3 v4 : Int} (h0 : (v0 : Int) ≤ v1) (h1 : (0 : Int) ≤ v0) (h2 : (v2 : Int) = (v1 + 1)) (h3 : (v3 : Int) = v2) (h4 : (v3 : Int) ≤ v4) (h5 : (v4 : Int) ≤ 300) : (((0 : Int) ≤ v1) ∧ ((v1 : Int) ≤ 299)) := by omega
theorem om_16fa535973f3 {v0 v1 : Int} (h0 : (v0 : Int) < 100) (h1 : (v1 : Int) = v0) : (v1 : Int) ≤ 999999 := by omega
theorem om_1714045c3405 {v0 v1 v2 v3 : Int} (h0 : (v0 : Int) ≤ 300) (h1 : (0 : Int) ≤ v1) (h2 : (v1 : Int) ≤ v2) (h3 : (v2 : Int) < v0) (h4 : (v3 : Int) = (v1 + 0)) : (((0 : Int) ≤ v3) ∧ ((v3 : Int) ≤ 300)) := by omega
theorem om_17779d3d27a1 {v0 v1 : Int} (h0 : (v0 : Int) < v1) (h1 : (v1 : Int) ≤ 4000) (h2 : (0 : Int) ≤ v0) : (((0 : Int) ≤ v0) ∧ ((v0 : Int) ≤ 4000)) := by omega
theorem om_17e47abb59b2 {v0 v1 v2 : Int} (h0 : (0 : Int) ≤ v0) (h1 : (v0 : Int) ≤ 1) (h2 : (0 : Int) ≤ v1) (h3 : (v1 : Int) ≤ 20) (h4 : (v1 : Int) ≠ 20) (h5 : (v2 : Int) = (20 * v0)) : ((((-2147483648) : Int) ≤ (v2 + v1)) ∧ (((v2 + v1) : Int) ≤ 2147483647)) := by omega
theorem om_18088623a468 {v0 : Int} (h0 : (1 : Int) ≤ v0) (h1 : (v0 : Int) ≤ 20000) : ((((-2147483648) : Int) ≤ (v0 - 1)) ∧ (((v0 - 1) : Int) ≤ 2147483647)) := by omega
theorem om_182388153525 {v1 v2 : Int} {v0 v3 v4 : Nat} (h0 : (((v0 : Nat) : Int) : Int) = v1) (h1 : (v2 : Int) = ((((8 * ((24 * v0) + v3)) + v4) : Nat) : Int)) (h2 : (0 : Int) ≤ v1) : (0 : Int) ≤ v2 := by omega
theorem om_182f93eac4c1 {v0 v1 v2 : Int} (h0 : (1 : Int) ≤ v0) (h1 : (v0 : Int) ≤ 40) (h2 : (v0 : Int) ≠ 40) (h3 : (v1 : Int) = (v0 + 1)) (h4 : (v2 : Int) = (v1 - 1)) : ((((-1) : Int) ≤ v2) ∧ ((v2 : Int) ≤ 39)) := by omega
theorem om_183a7b9b545d {v0 v3 v5 v7 v8 v9 : Int} {v1 v2 v4 v6 : Nat} (h0 : (v0 : Int) = ((v1 : Nat) : Int)) (h1 : (v0 : Int) ≤ ((v2 : Nat) : Int)) (h2 : (v2 : Nat) = 24) (h3 : (((v3 + (192 * ((v4 : Nat) : Int))) + 192) : Int) ≤ (((v5 + (192 * ((v6 : Nat) : Int))) + (24 * v7)) + v8)) (h4 : (v8 : Int) ≤ ((v1 : Nat) : Int)) (h5 : (v9 : Int) = (v7 + 1)) : (((v3 + (192 * ((v4 : Nat) : Int))) + 192) : Int) ≤ ((v5 + (192 * ((v6 : Nat) : Int))) + (24 * v9)) := by omega
theorem om_1845fc80a647 {v0 v1 : Int} (h0 : (v0 : Int) = 0) (h1 : (v1 : Int) = 0) : (((v1 : Int) = 0) ∧ ((v0 : Int) = 0)) := by omega
theorem om_18aaedfb7f0e {v0 v1 : Int} (h0 : (v0 : Int) ≤ 12) (h1 : (0 : Int) ≤ v1) (h2 : (v1 : Int) < v0) : ((((-2147483648) : Int) ≤ (v1 + 1)) ∧ (((v1 + 1) : Int) ≤ 2147483647)) := by omega
theorem om_18d517c905c9 {v0 v1 v2 v3 : Int} (h0 : (1 : Int) ≤ v0) (h1 : (0 : Int) ≤ v1) (h2 : (v2 : Int) = (24 * v0)) (h3 : (v3 : Int) = (v2 + v1)) : (0 : Int) ≤ v3 := by omega
theorem om_18f7632ec53c {v1 v3 v4 v5 v6 v7 : Int} {v0 v2 v8 : Nat} (h0 : (((v0 : Nat) : Int) : Int) ≤ ((84 * v1) + 56)) (h1 : (((v2 : Nat) : Int) : Int) ≤ 27) (h2 : (v3 : Int) = (v1 + 1)) (h3 : (v4 : Int) = v3) (h4 : (v5 : Int) = v4) (h5 : (v6 : Int) = (v5 - 1)) (h6 : (v7 : Int) = v6) (h7 : (v8 : Nat) = (v2 + v0)) : (((v8 : Nat) : Int) : Int) ≤ ((84 * v7) + 84) := by omega
theorem om_193d16bbc0e3 {v0 v1 v2 v3 v4 v5 : Int} (h0 : (v0 : Int) ≤ v1) (h1 : (v1 : Int) ≤ v2) (h2 : (v3 : Int) = v0) (h3 : (v4 : Int) = v2) (h4 : (v5 : Int) = v3) : (v5 : Int) ≤ v4 := by omega
theorem om_19587af08997 {v0 v1 v2 v3 v4 v5 v6 v7 v8 : Int} (h0 : (v0 : Int) ≤ v1) (h1 : (((v2 + v3) - v0) : Int) ≤ 999000) (h2 : (0 : Int) ≤ v3) (h3 : ((v4 - v0) : Int) ≤ (v5 - v1)) (h4 : (((v6 + v7) - v4) : Int) ≤ ((v2 + v3) - v0)) (h5 : (v7 : Int) = v3) (h6 : (v5 : Int) ≤ 300) (h7 : (300 : Int) ≤ v6) (h8 : (v8 : Int) = (v6 + 1)) : (((0 : Int) ≤ v8) ∧ ((v8 : Int) ≤ 1000000)) := by omega
theorem om_198ab90a5256 {v0 v1 v2 v3 v4 : Int} (h0 : (0 : Int) ≤ v0) (h1 : (0 : Int) ≤ v1) (h2 : (v1 : Int) ≤ 7) (h3 : (v0 : Int) < v2) (h4 : (v2 : Int) ≤ 300) (h5 : (v3 : Int) = (8 * v0)) (h6 : (v4 : Int) = (v3 + v1)) : ((((-2147483648) : Int) ≤ (24 * v4)) ∧ (((24 * v4) : Int) ≤ 2147483647)) := by omega
theorem om_198b8ec8067a {v0 v1 v2 v3 v4 : Int} (h0 : (0 : Int) ≤ v0) (h1 : (v0 : Int) < v1) (h2 : (v1 : Int) ≤ 300) (h3 : (0 : Int) ≤ v2) (h4 : (v3 : Int) ≤ 8) (h5 : (v2 : Int) < v3) (h6 : (v4 : Int) = (8 * v0)) : ((((-2147483648) : Int) ≤ (v4 + v2)) ∧ (((v4 + v2) : Int) ≤ 2147483647)) := by omega
theorem om_19aed6992cbe {v0 v1 v2 v3 : Int} (h0 : (0 : Int) ≤ v0) (h1 : (0 : Int) ≤ v1) (h2 : (v2 : Int) = (24 * v0)) (h3 : (v3 : Int) = (v2 + v1)) : (0 : Int) ≤ v3 := by omega
theorem om_19f77980e03c {v1 v3 v4 v5 : Int} {v0 v2 v6 : Nat} (h0 : (((v0 : Nat) : Int) : Int) = v1) (h1 : (((v2 : Nat) : Int) : Int) = v3) (h2 : (v4 : Int) = (v1 * 8)) (h3 : (v5 : Int) = (v4 + v3)) (h4 : (((v6 : Nat) : Int) : Int) = v5) : (v6 : Nat) = ((8 * v0) + v2) := by omega
theorem om_1a715ceeeee0 {v0 v1 v2 v3 : Int} (h0 : (v0 : Int) ≤ 40) (h1 : (0 : Int) ≤ v1) (h2 : (v1 : Int) ≤ v2) (h3 : (v2 : Int) < v0) (h4 : (v3 : Int) = (v1 + 1)) : (((0 : Int) ≤ v3) ∧ ((v3 : Int) ≤ 40)) := by omega
theorem om_1a8c13602466 {v1 v2 : Int} {v0 : Nat} (h0 : (((v0 : Nat) : Int) : Int) = v1) (h1 : (v2 : Int) = (v1 + 1)) : (0 : Int) ≤ v2 := by omega
theorem om_1ad90c7041d3 {v0 v1 : Int} (h0 : (v0 : Int) ≤ 12) (h1 : (0 : Int) ≤ v1) (h2 : (v1 : Int) < v0) : (((0 : Int) ≤ v1) ∧ ((v1 : Int) ≤ 11)) := by omega
theorem om_1ad9b6cfa593 {v0 : Int} {v1 v2 : Nat} (h0 : ((300 - v0) : Int) ≤ ((v1 : Nat) : Int)) (h1 : (v0 : Int) ≤ 300) : (((8 + (8 + 11)) + 25) : Nat) ≤ (((100 * v1) + (1000 * v2)) + 500) := by omega
theorem om_1ae9279ea60d {v0 : Int} {v1 : Nat} (h0 : (v0 : Int) < 8) (h1 : (((v1 : Nat) : Int) : Int) = v0) : (v1 : Nat) < 8 := by omega
theorem om_1aef622ca9ac {v1 v2 v3 v5 : Int} {v0 v4 : Nat} (h0 : (((v0 : Nat) : Int) : Int) ≤ ((84 * v1) + (28 * v2))) (h1 : (v3 : Int) = (v2 + 1)) (h2 : (v4 : Nat) = (0 + v0)) (h3 : (v5 : Int) = v1) : (((v4 : Nat) : Int) : Int) ≤ ((84 * v5) + (28 * (v3 - 1))) := by omega
theorem om_1b06118e3a49 {v0 v1 v2 v3 : Nat} (h0 : ((((v0 : Nat) : Int) + 1) : Int) ≤ ((v1 : Nat) : Int)) (h1 : (v2 : Nat) = v0) (h2 : (v3 : Nat) = v2) : ((((v3 : Nat) : Int) + 1) : Int) ≤ ((v1 : Nat) : Int) := by omega
theorem om_1b07785c3efa {v0 : Nat} : ((((10 * v0) + 10) + 1) : Nat) ≤ ((10 * v0) + 11) := by omega
theorem om_1b10ca75f5f0 {v0 : Int} (h0 : (0 : Int) ≤ v0) (h1 : (v0 : Int) < 0) : False := by omega
theorem om_1b1318762dc0 {v0 : Int} (h0 : (0 : Int) ≤ v0) (h1 : (v0 : Int) = 0) : (((0 : Int) ≤ v0) ∧ ((v0 : Int) ≤ 2)) := by omega
theorem om_1b1708f3d7e8 {v0 v1 : Int} (h0 : (0 : Int) ≤ v0) (h1 : (v0 : Int) ≤ 12) (h2 : (v0 : Int) ≠ 12) (h3 : (v1 : Int) = (v0 + 1)) : (((0 : Int) ≤ v1) ∧ ((v1 : Int) ≤ 12)) := by omega
theorem om_1b1f2d1cff90 {v0 : Int} (h0 : (1 : Int) ≤ v0) (h1 : (v0 : Int) ≤ 1) : (((1 : Int) ≤ v0) ∧ ((v0 : Int) ≤ 1)) := by omega
theorem om_1b2fb2a71a22 {v1 v2 v3 : Int} {v0 : Nat} (h0 : (((v0 : Nat) : Int) : Int) ≤ ((28 * v1) + 1)) (h1 : (v2 : Int) = v3) (h2 : (v3 : Int) ≤ (24 * (10 - v1))) (h3 : (0 : Int) < v2) : (v0 : Nat) ≤ 394 := by omega
theorem om_1bb32e01d4a3 {v0 : Int} (h0 : (0 : Int) ≤ v0) (h1 : (v0 : Int) < 960) : ((((-2147483648) : Int) ≤ (v0 + 1)) ∧ (((v0 + 1) : Int) ≤ 2147483647)) := by omega
theorem om_1c0ddc14e6cd {v1 v2 : Int} {v0 : Nat} (h0 : ((((v0 : Nat) : Int) + 1) : Int) = v1) (h1 : (v1 : Int) ≤ 395) (h2 : (v2 : Int) = v1) : ((((-2147483648) : Int) ≤ (v2 - 1)) ∧ (((v2 - 1) : Int) ≤ 2147483647)) := by omega
theorem om_1c238820b81d {v0 : Int} (h0 : (v0 : Int) = 9) : (v0 : Int) ≠ 3 := by omega
theorem om_1c36e316c123 {v0 : Int} (h0 : (0 : Int) ≤ v0) (h1 : (v0 : Int) ≤ 1) : ((((-2147483648) : Int) ≤ (20 * v0)) ∧ (((20 * v0) : Int) ≤ 2147483647)) := by omega
theorem om_1c4d48fa8b17 {v0 v1 : Nat} : (((8 + (11 + 11)) + (((100 * v0) + (1000 * v1)) + 350)) : Nat) ≤ (((100 * v0) + (1000 * v1)) + 380) := by omega
theorem om_1c5824fd9b6e {v0 : Int} : (v0 : Int) = (v0 + ((0 : Nat) : Int)) := by omega
theorem om_1c624bf9a5f6 {v0 v1 v2 v3 v4 v5 v6 v7 v8 : Int} (h0 : (((v0 - v1) - v2) : Int) ≤ ((v3 - v4) - v5)) (h1 : (v6 : Int) = v2) (h2 : (v7 : Int) = v1) (h3 : (v8 : Int) = v0) : (((v8 - v7) - v6) : Int) ≤ ((v3 - v4) - v5) := by omega
theorem om_1c6a8f74b4b6 {v0 : Int} (h0 : (0 : Int) ≤ v0) (h1 : (v0 : Int) ≤ 39) : ((((-2147483648) : Int) ≤ (v0 * 24)) ∧ (((v0 * 24) : Int) ≤ 2147483647)) := by omega
theorem om_1c984a86026c {v0 v2 : Int} {v1 : Nat} (h0 : (v0 : Int) = ((v1 : Nat) : Int)) (h1 : (v0 : Int) ≤ v2) : (((v1 : Nat) : Int) : Int) ≤ v2 := by omega
theorem om_1cb014f364ac {v0 v1 v2 v3 v4 : Int} {v5 : Nat} (h0 : (0 : Int) ≤ v0) (h1 : (v1 : Int) = v2) (h2 : (v3 : Int) ≤ v2) (h3 : (v4 : Int) ≤ ((v5 : Nat) : Int)) (h4 : ((v1 + 1) : Int) ≤ v4) (h5 : ((v0 + 1) : Int) ≤ v3) : (((0 : Int) ≤ v4) ∧ ((v4 : Int) ≤ ((v5 : Nat) : Int))) := by omega
theorem om_1cd470348f7c {v0 : Int} (h0 : (v0 : Int) ≤ 6) : (v0 : Int) ≤ 6 := by omega
theorem om_1ce157d38d46 {v0 v2 v3 : Int} {v1 : Nat} (h0 : ((10 - v0) : Int) ≤ ((v1 : Nat) : Int)) (h1 : (v2 : Int) = v0) (h2 : (v3 : Int) = v2) : ((10 - v3) : Int) ≤ ((v1 : Nat) : Int) := by omega
theorem om_1ce9b0d19885 {v0 v1 v2 v3 v4 v5 v6 : Int} (h0 : (v0 : Int) = (v1 + 1)) (h1 : (v2 : Int) = v0) (h2 : (v3 : Int) = v4) (h3 : (v5 : Int) = v6) : (((v5 - v3) - v2) : Int) ≤ ((v6 - v4) - v1) := by omega
theorem om_1cede0128ad6 {v0 v1 v2 v3 : Int} (h0 : (0 : Int) ≤ v0) (h1 : (v0 : Int) ≤ 23) (h2 : (0 : Int) ≤ v1) (h3 : (v1 : Int) ≤ 1) (h4 : (v2 : Int) = (24 * v1)) (h5 : (v3 : Int) = (v2 + v0)) : ((((-2147483648) : Int) ≤ (24 * v3)) ∧ (((24 * v3) : Int) ≤ 2147483647)) := by omega
theorem om_1d2910de4fd0 {v0 : Int} {v1 : Nat} (h0 : ((24 - v0) : Int) ≤ ((v1 : Nat) : Int)) (h1 : (v0 : Int) < 24) : ((1 + 1) : Nat) ≤ ((10 * v1) + 8) := by omega
theorem om_1d2fd54dada3 {v0 : Int} {v1 v2 : Nat} (h0 : ((10 - v0) : Int) ≤ ((v1 : Nat) : Int)) (h1 : (v0 : Int) ≤ 10) (h2 : (v0 : Int) ≠ 10) : (((8 + (2 + 11)) + 0) : Nat) ≤ (((100 * v2) + (1000 * v1)) + 320) := by omega
theorem om_1d32fe7c388b {v0 v1 : Int} : (((25 * (8 - v0)) - v1) : Int) ≤ ((25 * (8 - v0)) - v1) := by omega
theorem om_1d3ee3ce7f7a {v0 v2 v4 : Int} {v1 v3 : Nat} (h0 : ((300 - v0) : Int) ≤ ((v1 : Nat) : Int)) (h1 : ((10 - v2) : Int) ≤ ((v3 : Nat) : Int)) (h2 : (v0 : Int) ≤ 300) (h3 : (v4 : Int) = v2) (h4 : (v4 : Int) ≤ 10) : ((1 + 1) : Nat) ≤ (((4 * v1) + (40 * v3)) + 11) := by omega
theorem om_1d58235eefb9 {v0 v1 v2 v3 : Int} (h0 : (0 : Int) ≤ v0) (h1 : (v1 : Int) = (v0 * 24)) (h2 : (0 : Int) ≤ v2) (h3 : (v3 : Int) = (v1 + v2)) : (0 : Int) ≤ v3 := by omega
theorem om_1d6050cb466e {v0 v1 v2 : Int} {v3 : Nat} (h0 : (v0 : Int) = (v1 + 1)) (h1 : (v1 : Int) = (v2 + ((v3 : Nat) : Int))) : (v0 : Int) = (v2 + (((v3 + 1) : Nat) : Int)) := by omega
theorem om_1d76971512b8 {v0 : Nat} : (((8 + (2 + 11)) + 0) : Nat) ≤ ((300 * v0) + 380) := by omega
theorem om_1d7e93547bc9 {v0 v1 v2 v3 v4 v5 : Int} (h0 : (v0 : Int) = (v1 + 1)) (h1 : (v2 : Int) = v0) (h2 : (v3 : Int) = v2) (h3 : (v4 : Int) = (v3 - 1)) (h4 : (v5 : Int) = v4) : (v5 : Int) = v1 := by omega
theorem om_1db0a53e4a87 {v0 : Int} (h0 : (v0 : Int) = 40) : (1 : Int) ≤ v0 := by omega
theorem om_1dc1aea22b9c {v0 v1 v2 v3 : Int} (h0 : (v0 : Int) ≤ v1) (h1 : ((v2 - v0) : Int) ≤ (v3 - v1)) : (v2 : Int) ≤ v3 := by omega
theorem om_1e1b103e2e8d {v0 v1 : Int} (h0 : (v0 : Int) ≤ 6) (h1 : (v0 : Int) ≠ 6) (h2 : (v1 : Int) = (v0 + 1)) : (v1 : Int) ≤ 6 := by omega
theorem om_1e21532676d6 {v0 v2 v3 : Int} {v1 : Nat} (h0 : ((8 - v0) : Int) < ((v1 : Nat) : Int)) (h1 : (v2 : Int) = (v0 + 1)) (h2 : (v3 : Int) = v2) : ((8 - v3) : Int) < ((v1 : Nat) : Int) := by omega
theorem om_1e2998b5d70c {v0 v1 v2 : Int} (h0 : (v0 : Int) < v1) (h1 : (v2 : Int) = (v0 + (-1))) : (v2 : Int) < v1 := by omega
theorem om_1e2c46ce8ef5 {v0 v1 : Int} (h0 : (0 : Int) ≤ v0) (h1 : (v0 : Int) < v1) (h2 : (v1 : Int) ≤ 300) : (((0 : Int) ≤ v0) ∧ ((v0 : Int) ≤ 299)) := by omega
theorem om_1e2e575eba98 {v0 v1 v2 : Nat} (h0 : (v0 : Nat) < 2) (h1 : (v1 : Nat) ≤ 24) (h2 : (v2 : Nat) < v1) : (((24 * v0) + v2) : Nat) < 48 := by omega
theorem om_1e6c034e3eac {v0 : Int} (h0 : (1 : Int) ≤ v0) (h1 : (v0 : Int) ≤ 1) : (((0 : Int) ≤ v0) ∧ ((v0 : Int) ≤ 1)) := by omega
theorem om_1e9f8c1f3f02 {v0 v1 v2 v3 : Int} {v4 : Nat} (h0 : (v0 : Int) ≤ 4000) (h1 : (v1 : Int) < v0) (h2 : (v2 : Int) ≤ v3) (h3 : (v3 : Int) = v0) (h4 : (v0 : Int) ≤ v2) (h5 : (((v4 : Nat) : Int) : Int) = v1) : (((0 : Int) ≤ v2) ∧ ((v2 : Int) ≤ 4000)) := by omega
theorem om_1ee70eca1945 {v1 : Int} {v0 : Nat} (h0 : (((v0 : Nat) : Int) : Int) ≤ (84 * v1)) (h1 : (v1 : Int) ≤ 10) : (v0 : Nat) ≤ 2000 := by omega
theorem om_1eec92a7aae7 {v0 v1 v2 v3 v4 : Int} (h0 : (v0 : Int) = 0) (h1 : (v1 : Int) = 0) (h2 : (v2 : Int) = 0) (h3 : (v3 : Int) = 0) (h4 : (v4 : Int) = 0) : (((v4 : Int) = 0) ∧ ((((v2 : Int) = 0) ∧ ((((v3 : Int) = 0) ∧ ((((v0 : Int) = 0) ∧ ((v1 : Int) = 0)))))))) := by omega
theorem om_1ef0cfc3b2d2 {v0 : Int} (h0 : (0 : Int) ≤ v0) (h1 : (v0 : Int) ≤ 2147483647) : (((0 : Int) ≤ v0) ∧ ((v0 : Int) ≤ 2147483647)) := by omega
theorem om_1ef0ff8d7011 {v0 v1 v2 : Int} (h0 : (v0 : Int) ≤ 40) (h1 : (v1 : Int) = v0) (h2 : (0 : Int) ≤ v2) (h3 : (v2 : Int) < v1) : (((0 : Int) ≤ v2) ∧ ((v2 : Int) ≤ 39)) := by omega
theorem om_1f232cf6ece1 {v0 : Int} (h0 : (v0 : Int) = 7) (h1 : (v0 : Int) = 15) : False := by omega
theorem om_1f8d46bc165b {v0 v1 v2 : Int} (h0 : (v0 : Int) = (v1 + 1)) (h1 : (v2 : Int) = v0) : ((v1 + 1) : Int) ≤ v2 := by omega
theorem om_1f97efb5c0c8 {v0 : Nat} : (((8 + (2 + 11)) + 0) : Nat) ≤ ((300 * v0) + 300) := by omega
theorem om_1fb375867bcd {v0 : Nat} : (((8 + (3 + 11)) + ((300 * v0) + 180)) : Nat) ≤ ((300 * v0) + 210) := by omega
theorem om_1fb90afb766b {v0 v1 v2 v3 : Int} (h0 : (v0 : Int) ≤ 4000) (h1 : (0 : Int) ≤ v1) (h2 : (v2 : Int) < v0) (h3 : (v3 : Int) = (v2 - v1)) (h4 : (12 : Int) ≤ v3) : ((((-2147483648) : Int) ≤ (v2 + 1)) ∧ (((v2 + 1) : Int) ≤ 2147483647)) := by omega
theorem om_1fc4a2de535e {v0 : Int} (h0 : ((-1) : Int) ≤ v0) (h1 : (v0 : Int) ≤ 262143) : ((((-1) : Int) ≤ v0) ∧ ((v0 : Int) ≤ 262143)) := by omega
theorem om_20080544fbb2 {v0 : Int} (h0 : (v0 : Int) = 11) : (((1 : Int) ≤ v0) ∧ ((v0 : Int) ≤ 11)) := by omega
theorem om_2018a100b673 {v0 v1 v2 : Int} (h0 : (v0 : Int) = v1) (h1 : (v0 : Int) ≤ 8) (h2 : (v0 : Int) ≠ 8) (h3 : (v2 : Int) = v1) : (v2 : Int) ≤ 7 := by omega
theorem om_201b8e8d33df {v0 : Int} (h0 : (97 : Int) ≤ v0) (h1 : (v0 : Int) ≤ 122) : (((97 : Int) ≤ v0) ∧ ((v0 : Int) ≤ 122)) := by omega
theorem om_202a39b5c257 {v1 : Int} {v0 v2 : Nat} (h0 : (((v0 : Nat) : Int) : Int) ≤ ((84 * v1) + 56)) (h1 : (((v2 : Nat) : Int) : Int) ≤ 27) (h2 : (v1 : Int) ≤ 10) : ((v2 + v0) : Nat) ≤ 2000 := by omega
theorem om_2031c41504d4 {v0 : Int} (h0 : (v0 : Int) = 11) (h1 : (v0 : Int) = 3) : False := by omega
theorem om_2039720f7f75 {v1 : Int} {v0 : Nat} (h0 : (((v0 : Nat) : Int) : Int) ≤ ((84 * v1) + 56)) (h1 : (v1 : Int) ≤ 10) : ((0 + v0) : Nat) ≤ 2000 := by omega
theorem om_20450eced99f {v0 v1 v2 v3 v4 v5 : Int} (h0 : ((v0 - v1) : Int) ≤ (v2 - v3)) (h1 : ((v4 - v0) : Int) ≤ (v5 - v2)) : ((v4 - v1) : Int) ≤ (v5 - v3) := by omega
theorem om_2056dfc9b4b0 {v0 : Nat} : ((1613 + 1) : Nat) ≤ ((2 * v0) + 1616) := by omega
theorem om_2061d74f239e {v0 v1 : Int} (h0 : (v0 : Int) ≤ 40) (h1 : (0 : Int) ≤ v1) (h2 : (v1 : Int) < v0) : ((((-2147483648) : Int) ≤ (v1 + 1)) ∧ (((v1 + 1) : Int) ≤ 2147483647)) := by omega
theorem om_20e9430839ec {v0 v1 : Int} (h0 : (v0 : Int) = 0) (h1 : (v1 : Int) = v0) : ((v1 + 1) : Int) = 1 := by omega
theorem om_21290d7b1cdd {v0 v1 v2 : Int} (h0 : (v0 : Int) = v1) (h1 : (v0 : Int) < v2) : (v1 : Int) < v2 := by omega
theorem om_212987aed262 {v0 v2 v4 : Int} {v1 v3 : Nat} (h0 : ((300 - v0) : Int) ≤ ((v1 : Nat) : Int)) (h1 : ((10 - v2) : Int) ≤ ((v3 : Nat) : Int)) (h2 : (v0 : Int) ≤ 300) (h3 : (v4 : Int) = v2) (h4 : (v4 : Int) ≤ 10) : ((0 + 1) : Nat) ≤ (((4 * v1) + (40 * v3)) + 11) := by omega
theorem om_21343706aabc {v0 v1 : Int} (h0 : (v0 : Int) < 12) (h1 : (v1 : Int) = v0) : (v1 : Int) < 12 := by omega
theorem om_214c8b3d4a91 {v0 : Int} (h0 : (v0 : Int) = 136) : (v0 : Int) ≠ 0 := by omega
theorem om_215a0c6c90f2 {v0 v2 : Int} {v1 v3 v4 : Nat} (h0 : (v0 : Int) = ((v1 : Nat) : Int)) (h1 : (v2 : Int) < v0) (h2 : (((v3 : Nat) : Int) : Int) = v2) (h3 : (v1 : Nat) = v4) : (v3 : Nat) < v4 := by omega
theorem om_2195e15a955d {v0 v1 v2 v3 v4 v5 : Int} (h0 : (v0 : Int) = v1) (h1 : (v2 : Int) = v3) (h2 : ((v4 - v0) : Int) ≤ (v5 - v2)) : ((v4 - v1) : Int) ≤ (v5 - v3) := by omega
theorem om_2211538f53e6 {v0 v1 v2 : Int} (h0 : (0 : Int) ≤ v0) (h1 : (v0 : Int) ≤ 1) (h2 : (v1 : Int) = (12 * v0)) (h3 : (0 : Int) ≤ v2) (h4 : (v2 : Int) ≤ 12) : ((((-2147483648) : Int) ≤ (v1 + v2)) ∧ (((v1 + v2) : Int) ≤ 2147483647)) := by omega
theorem om_22346e364ab0 {v0 : Int} {v1 v2 : Nat} (h0 : (v0 : Int) ≤ 23) (h1 : (v1 : Nat) < 2) (h2 : (((v2 : Nat) : Int) : Int) = v0) : (((24 * v1) + v2) : Nat) < 48 := by omega
theorem om_223a71cbc709 {v0 : Int} {v1 v2 : Nat} (h0 : ((300 - v0) : Int) ≤ ((v1 : Nat) : Int)) (h1 : (v0 : Int) ≤ 300) : (((8 + (4 + 11)) + 0) : Nat) ≤ (((100 * v1) + (1000 * v2)) + 500) := by omega
theorem om_226aa09952a8 {v0 : Nat} : (((8 + (3 + 11)) + ((300 * v0) + 420)) : Nat) ≤ ((300 * v0) + 460) := by omega
theorem om_2270743a1a47 {v0 : Int} {v1 : Nat} (h0 : (v0 : Int) ≤ 7) (h1 : ((7 - v0) : Int) ≤ ((v1 : Nat) : Int)) : (((8 + (2 + 11)) + 21) : Nat) ≤ ((300 * v1) + 290) := by omega
theorem om_2278541b5b9f {v0 v2 v3 : Int} {v1 v4 : Nat} (h0 : (v0 : Int) = ((v1 : Nat) : Int)) (h1 : (v2 : Int) = v0) (h2 : (v3 : Int) < v2) (h3 : (((v4 : Nat) : Int) : Int) = v3) : (v4 : Nat) < v1 := by omega
theorem om_228f60f095f6 {v2 : Int} {v0 v1 : Nat} (h0 : (v0 : Nat) ≤ 24) (h1 : (v1 : Nat) < v0) (h2 : (0 : Int) ≤ v2) (h3 : (v2 : Int) ≤ ((v1 : Nat) : Int)) : ((((-2147483648) : Int) ≤ (v2 + 1)) ∧ (((v2 + 1) : Int) ≤ 2147483647)) := by omega
theorem om_22ab7d39b2a2 {v0 : Int} (h0 : (0 : Int) ≤ v0) (h1 : (v0 : Int) ≤ 63) : (((0 : Int) ≤ v0) ∧ ((v0 : Int) ≤ 63)) := by omega
theorem om_22ed8688708a {v0 : Int} {v1 : Nat} (h0 : (0 : Int) ≤ v0) (h1 : (v0 : Int) < ((v1 : Nat) : Int)) : (0 : Int) ≤ (((v1 : Nat) : Int) + 1) := by omega
theorem om_2303d3558cdc {v0 v1 v2 : Int} (h0 : (0 : Int) ≤ v0) (h1 : (v0 : Int) ≤ 1) (h2 : (v1 : Int) = (24 * v0)) (h3 : (0 : Int) ≤ v2) (h4 : (v2 : Int) ≤ 23) : ((((-2147483648) : Int) ≤ (v1 + v2)) ∧ (((v1 + v2) : Int) ≤ 2147483647)) := by omega
theorem om_2303ebca4cc9 {v0 v1 v2 v3 v4 : Int} (h0 : (v0 : Int) = v1) (h1 : (v0 : Int) ≤ v2) (h2 : (v3 : Int) = v2) (h3 : (v1 : Int) = (v4 + 1)) : (v4 : Int) ≤ v3 := by omega
theorem om_231f9f0bb782 {v1 v2 : Int} {v0 : Nat} (h0 : (((v0 : Nat) : Int) : Int) = (1 - v1)) (h1 : (v2 : Int) = (1 - v1)) : (0 : Int) ≤ v2 := by omega
theorem om_23500ae93f3d {v0 v1 v2 v3 v4 v5 v6 v7 v8 v9 : Int} (h0 : (v0 : Int) = v1) (h1 : (v2 : Int) = v3) (h2 : (((v4 + v5) - v6) : Int) ≤ ((v7 + v2) - v0)) (h3 : (v7 : Int) ≤ v4) (h4 : (v8 : Int) = v6) (h5 : (v9 : Int) = v5) : ((v9 - v3) : Int) ≤ (v8 - v1) := by omega
theorem om_2364868d2742 {v0 v1 v2 v3 v4 v5 : Int} (h0 : (v0 : Int) = v1) (h1 : (v0 : Int) ≤ v2) (h2 : (v3 : Int) = v2) (h3 : (v4 : Int) = (v3 + 1)) (h4 : (v5 : Int) = v4) : (v1 : Int) ≤ v5 := by omega
theorem om_236d49a2dcd5 {v0 v1 v2 v3 v4 v5 v6 : Int} (h0 : (0 : Int) ≤ v0) (h1 : (v1 : Int) = (24 * v0)) (h2 : (0 : Int) ≤ v2) (h3 : (v3 : Int) = (v1 + v2)) (h4 : (0 : Int) ≤ v4) (h5 : (v5 : Int) = (20 * v3)) (h6 : (v6 : Int) = (v5 + v4)) : (0 : Int) ≤ v6 := by omega
theorem om_23728566a369 {v0 v1 : Int} (h0 : (148 : Int) ≤ v0) (h1 : (v0 : Int) ≤ 151) (h2 : (v1 : Int) = (v0 - 148)) : (((0 : Int) ≤ v1) ∧ ((v1 : Int) ≤ 3)) := by omega
theorem om_238fec1c15c9 {v0 : Nat} : (((8 + (2 + 11)) + 21) : Nat) ≤ ((300 * v0) + 460) := by omega
theorem om_239d98282c55 {v1 v2 v3 : Int} {v0 : Nat} (h0 : (((v0 : Nat) : Int) : Int) = (1 - v1)) (h1 : (v2 : Int) = (1 - v1)) (h2 : (v3 : Int) = v2) : (v3 : Int) = ((v0 : Nat) : Int) := by omega
theorem om_23af15ced7f9 {v0 : Int} (h0 : (0 : Int) ≤ v0) (h1 : (v0 : Int) < 20) : ((((-2147483648) : Int) ≤ (v0 + 1)) ∧ (((v0 + 1) : Int) ≤ 2147483647)) := by omega
theorem om_23be7eaae8ae {v0 v1 : Int} (h0 : (0 : Int) ≤ v0) (h1 : (v0 : Int) ≠ 0) (h2 : (v1 : Int) = (v0 + (-1))) : (0 : Int) ≤ v1 := by omega
theorem om_23d6d5a78aee {v0 : Int} (h0 : (v0 : Int) = 0) : (v0 : Int) = ((0 : Nat) : Int) := by omega
theorem om_23f5d950775b {v0 v1 v2 v3 v4 v5 : Int} (h0 : (v0 : Int) ≤ (v1 + v2)) (h1 : (v3 : Int) = (v0 + 1)) (h2 : (v4 : Int) = (v2 + 1)) (h3 : (v5 : Int) = v3) : (v5 : Int) ≤ (v1 + v4) := by omega
theorem om_23f683ec3621 {v0 v1 v2 v3 : Int} (h0 : (0 : Int) ≤ v0) (h1 : (v0 : Int) ≤ 24) (h2 : (v1 : Int) ≤ 4) (h3 : (0 : Int) ≤ v2) (h4 : (v2 : Int) < v1) (h5 : (v3 : Int) = (v0 + v2)) : (((0 : Int) ≤ v3) ∧ ((v3 : Int) ≤ 27)) := by omega
theorem om_242d2ab867cc {v0 v1 v2 v3 : Int} (h0 : (v0 : Int) ≤ 40) (h1 : (0 : Int) ≤ v1) (h2 : (v1 : Int) ≤ v2) (h3 : (v2 : Int) < v0) (h4 : (v3 : Int) = (v1 + 0)) : (((0 : Int) ≤ v3) ∧ ((v3 : Int) ≤ 40)) := by omega
theorem om_24782ab9634c {v1 v2 v4 v5 v6 v7 v8 : Int} {v0 v3 v9 : Nat} (h0 : (((v0 : Nat) : Int) : Int) = v1) (h1 : (v2 : Int) = ((v3 : Nat) : Int)) (h2 : (v4 : Int) = (24 * v1)) (h3 : (v5 : Int) = (v4 + v2)) (h4 : (v6 : Int) = (8 * v5)) (h5 : (v7 : Int) = (v6 + v8)) (h6 : (((v9 : Nat) : Int) : Int) = v8) : (v7 : Int) = ((((8 * ((24 * v0) + v3)) + v9) : Nat) : Int) := by omega
theorem om_2484f29c6625 {v0 v1 v2 v3 v4 v5 v6 v7 v8 v9 v10 v11 : Int} (h0 : (((v0 + v1) - v2) : Int) ≤ 999000) (h1 : (v3 : Int) = v1) (h2 : (v4 : Int) = v2) (h3 : (v5 : Int) = v0) (h4 : (v6 : Int) = v7) (h5 : (((v8 + v9) - v7) : Int) ≤ ((v5 + v3) - v4)) (h6 : (v10 : Int) = v9) (h7 : (v11 : Int) = v8) : (((v11 + v10) - v6) : Int) ≤ 999000 := by omega
theorem om_2487ca371d8b {v0 v1 v2 : Int} (h0 : (1 : Int) ≤ v0) (h1 : (v1 : Int) = v0) (h2 : (v2 : Int) = v1) : (1 : Int) ≤ v2 := by omega
theorem om_2495b21da7f9 {v0 v1 : Int} (h0 : (v0 : Int) ≤ (8048 - (6 * v1))) : (v0 : Int) ≤ (8049 - (6 * v1)) := by omega
theorem om_24f218c02418 {v0 v1 v2 v3 v4 : Int} {v5 v6 v7 v8 : Nat} (h0 : (v0 : Int) ≤ 4000) (h1 : (0 : Int) ≤ v1) (h2 : (v1 : Int) ≤ v2) (h3 : (v3 : Int) < v0) (h4 : (v4 : Int) = (v1 + 1)) (h5 : (((v5 : Nat) : Int) : Int) = v2) (h6 : (v6 : Nat) = v5) (h7 : (((v7 : Nat) : Int) : Int) = v3) (h8 : (v8 : Nat) = v7) (h9 : (v6 : Nat) < v8) : (((0 : Int) ≤ v4) ∧ ((v4 : Int) ≤ 4000)) := by omega
theorem om_255d42a3e514 {v0 : Int} {v1 : Nat} (h0 : (v0 : Int) ≤ 8) (h1 : ((8 - v0) : Int) ≤ ((v1 : Nat) : Int)) : (((8 + (1 + 11)) + 0) : Nat) ≤ ((300 * v1) + 150) := by omega
theorem om_2584058ff329 {v0 v1 : Nat} : (((((4 * v0) + (40 * v1)) + 15) + 1) : Nat) ≤ (((4 * v0) + (40 * v1)) + 16) := by omega
theorem om_258573d31b9c {v0 : Int} (h0 : (v0 : Int) = 1) : (v0 : Int) ≠ 3 := by omega
theorem om_258a92502e67 {v1 : Int} {v0 : Nat} (h0 : (((v0 : Nat) : Int) : Int) ≤ (84 * v1)) : (((v0 : Nat) : Int) : Int) ≤ (84 * v1) := by omega
theorem om_259ff51de1b6 {v1 : Int} {v0 : Nat} (h0 : (v0 : Nat) = 4) (h1 : (v1 : Int) = 4) : (v1 : Int) = ((v0 : Nat) : Int) := by omega
theorem om_25cd5ecd1f71 {v0 v1 : Int} (h0 : (v0 : Int) ≤ (2 * v1)) : (v0 : Int) ≤ (2 * v1) := by omega
theorem om_25d873365f5e {v0 v1 v2 v3 v4 v5 v6 : Int} (h0 : (v0 : Int) = (v1 + 1)) (h1 : (v2 : Int) = v0) (h2 : (v3 : Int) = v2) (h3 : (v4 : Int) = v3) (h4 : (v5 : Int) = (v4 - 1)) (h5 : (v6 : Int) = v5) : (v6 : Int) = v1 := by omega
theorem om_25f14e855ca5 {v0 v1 v2 v3 : Int} (h0 : (v0 : Int) < v1) (h1 : (v2 : Int) < v1) (h2 : (v3 : Int) = (v2 + 1)) : (((v3 : Int) ≤ v1) ∧ ((v0 : Int) < (v1 + 1))) := by omega
theorem om_25f998b4993b {v0 v1 v2 : Int} (h0 : (v0 : Int) = 0) (h1 : (v1 : Int) = (-1)) (h2 : (0 : Int) ≤ v2) : (((v0 : Int) ≤ v2) ∧ ((v1 : Int) < (v2 + 1))) := by omega
theorem om_2615ccd3bed7 {v1 v2 v4 v5 : Int} {v0 v3 : Nat} (h0 : (((v0 : Nat) : Int) : Int) ≤ ((84 * v1) + 84)) (h1 : (v2 : Int) = (v1 + 1)) (h2 : (v3 : Nat) = (0 + v0)) (h3 : (v4 : Int) = 0) (h4 : (v5 : Int) = v2) : (((v3 : Nat) : Int) : Int) ≤ ((84 * v5) + (28 * v4)) := by omega
theorem om_26701d63f2fa {v0 v1 : Nat} (h0 : (v0 : Nat) = (v1 + 1)) : (v0 : Nat) = (v1 + 1) := by omega
theorem om_2677f8202d81 {v0 v1 v2 v3 : Int} (h0 : (v0 : Int) ≤ 300) (h1 : (0 : Int) ≤ v1) (h2 : (v1 : Int) ≤ v2) (h3 : (v2 : Int) < v0) (h4 : (v3 : Int) = (v2 + 1)) : (((0 : Int) ≤ v3) ∧ ((v3 : Int) ≤ 300)) := by omega
theorem om_269ac9255ace {v0 : Int} (h0 : (v0 : Int) = 6) (h1 : (v0 : Int) = 15) : False := by omega
theorem om_26bd4b0b89ec {v0 v1 v2 v3 v4 v5 : Int} (h0 : (v0 : Int) ≤ v1) (h1 : (v2 : Int) = v0) (h2 : (v3 : Int) = v1) (h3 : ((v4 - v2) : Int) ≤ (v5 - v3)) : (v4 : Int) ≤ v5 := by omega
theorem om_26d00c385213 {v0 : Int} (h0 : (v0 : Int) = 6) (h1 : (v0 : Int) = 13) : False := by omega
theorem om_26d2b9a72ba7 {v0 : Int} (h0 : ((-1) : Int) ≤ v0) (h1 : (v0 : Int) ≤ 19) : ((((-1) : Int) ≤ v0) ∧ ((v0 : Int) ≤ 19)) := by omega
theorem om_26e2a40fb046 {v0 : Int} (h0 : (v0 : Int) = 14) (h1 : (v0 : Int) = 12) : False := by omega
theorem om_27202991b100 {v1 v2 : Int} {v0 v3 : Nat} (h0 : (v0 : Nat) = 12) (h1 : (v1 : Int) < v2) (h2 : (v2 : Int) ≤ ((v0 : Nat) : Int)) (h3 : (((v3 : Nat) : Int) : Int) = v1) : (v3 : Nat) < 12 := by omega
theorem om_2740c7d8a110 {v0 v2 v3 : Int} {v1 : Nat} (h0 : (((v0 + (400 * ((v1 : Nat) : Int))) + 30) : Int) ≤ 19000) (h1 : (v2 : Int) = v0) (h2 : (v3 : Int) = v2) : (((v3 + (400 * ((v1 : Nat) : Int))) + 30) : Int) ≤ 19000 := by omega
theorem om_2780df997877 {v0 v1 v2 : Int} (h0 : (0 : Int) ≤ v0) (h1 : (v0 : Int) < 24) (h2 : (0 : Int) ≤ v1) (h3 : (v1 : Int) ≤ 32) (h4 : (v2 : Int) = (v0 + v1)) : ((((-2147483648) : Int) ≤ (v2 + 1)) ∧ (((v2 + 1) : Int) ≤ 2147483647)) := by omega
theorem om_27823c0adab2 {v0 v1 v2 v3 : Int} (h0 : (v0 : Int) = (v1 + 1)) (h1 : (v2 : Int) = v0) (h2 : (v2 : Int) ≤ v3) : (v1 : Int) < v3 := by omega
theorem om_27b239c674fb {v0 v1 v2 v3 v4 v5 v6 : Int} (h0 : (0 : Int) ≤ v0) (h1 : (0 : Int) ≤ v1) (h2 : (0 : Int) ≤ v2) (h3 : (v3 : Int) = (24 * v1)) (h4 : (v4 : Int) = (v3 + v0)) (h5 : (v5 : Int) = (8 * v4)) (h6 : (v6 : Int) = (v5 + v2)) : (0 : Int) ≤ v6 := by omega
theorem om_27c928885e36 {v0 : Int} (h0 : (0 : Int) ≤ v0) (h1 : (v0 : Int) ≤ 20) (h2 : (v0 : Int) ≠ 20) : ((((-2147483648) : Int) ≤ (v0 + 1)) ∧ (((v0 + 1) : Int) ≤ 2147483647)) := by omega
theorem om_27d3ee26b7aa {v0 : Int} (h0 : (v0 : Int) = 7) (h1 : (v0 : Int) = 14) : False := by omega
theorem om_27f670172627 {v1 v2 : Int} {v0 : Nat} (h0 : ((((v0 : Nat) : Int) + 1) : Int) = v1) (h1 : (v1 : Int) ≤ 400) (h2 : (v2 : Int) = v1) : ((((-2147483648) : Int) ≤ (v2 - 1)) ∧ (((v2 - 1) : Int) ≤ 2147483647)) := by omega
theorem om_284371aec660 {v0 v1 v2 v3 v4 v5 v6 v7 v8 v9 v10 v11 v12 v13 v14 : Int} (h0 : (v0 : Int) = v1) (h1 : (v2 : Int) = v3) (h2 : (v4 : Int) = v5) (h3 : (((v6 + v7) - v8) : Int) ≤ ((v4 + v0) - v2)) (h4 : (v9 : Int) = v8) (h5 : (v10 : Int) = v7) (h6 : (v11 : Int) = v6) (h7 : (((v12 + v13) - v14) : Int) ≤ ((v11 + v10) - v9)) : (((v12 + v13) - v14) : Int) ≤ ((v5 + v1) - v3) := by omega
theorem om_28492b8d939d {v0 v1 v2 : Int} (h0 : (0 : Int) ≤ v0) (h1 : (v0 : Int) ≤ 1) (h2 : ((-1) : Int) ≤ v1) (h3 : (v1 : Int) ≤ 23) (h4 : (v2 : Int) = (24 * v0)) : ((((-2147483648) : Int) ≤ (v2 + v1)) ∧ (((v2 + v1) : Int) ≤ 2147483647)) := by omega
theorem om_286ba355964b {v0 v1 : Int} (h0 : (v0 : Int) ≤ 8120) (h1 : (v1 : Int) = v0) : (v1 : Int) ≤ 8200 := by omega
theorem om_2889dd72afc4 {v0 v1 v2 v3 : Int} (h0 : (0 : Int) ≤ v0) (h1 : (v0 : Int) ≤ v1) (h2 : (v2 : Int) ≤ 40) (h3 : (v1 : Int) < v2) (h4 : (v3 : Int) = (v0 + 1)) : (((0 : Int) ≤ v3) ∧ ((v3 : Int) ≤ 40)) := by omega
theorem om_28eded427b2a {v0 v1 v2 : Int} (h0 : (v0 : Int) = 0) (h1 : (v1 : Int) = v0) (h2 : (v2 : Int) = 0) : (v2 : Int) ≤ (2 * v1) := by omega
theorem om_29112faea521 {v1 : Int} {v0 v2 : Nat} (h0 : (v0 : Nat) < 2) (h1 : (v1 : Int) < 12) (h2 : (((v2 : Nat) : Int) : Int) = v1) : (((12 * v0) + v2) : Nat) < 24 := by omega
theorem om_293598158784 {v0 v1 v2 : Int} (h0 : (v0 : Int) ≤ 20000) (h1 : (v1 : Int) = (v0 - 1)) (h2 : (v2 : Int) = v1) : (v2 : Int) ≤ 19999 := by omega
theorem om_295b1bd8a48b {v0 : Int} (h0 : (0 : Int) ≤ v0) (h1 : (v0 : Int) ≤ 27) : (((0 : Int) ≤ v0) ∧ ((v0 : Int) ≤ 27)) := by omega
theorem om_295b4de26490 {v1 : Int} {v0 v2 : Nat} (h0 : (((v0 : Nat) : Int) : Int) ≤ (((28 * v1) + 24) - ((v2 : Nat) : Int))) (h1 : (v1 : Int) ≤ 10) : (v0 : Nat) ≤ 394 := by omega
theorem om_297634a79302 {v0 v1 : Int} (h0 : (0 : Int) ≤ v0) (h1 : (v0 : Int) < v1) (h2 : (v1 : Int) ≤ 40) : ((((-2147483648) : Int) ≤ (v1 - 1)) ∧ (((v1 - 1) : Int) ≤ 2147483647)) := by omega
theorem om_29df28a178d1 {v0 : Int} (h0 : (v0 : Int) ≠ 2) (h1 : (v0 : Int) = 2) (h2 : (v0 : Int) = 1) : False := by omega
theorem om_29df2e9a5bf6 {v0 : Int} {v1 v2 v3 : Nat} (h0 : (v0 : Int) ≤ 12) (h1 : ((12 - v0) : Int) ≤ ((v1 : Nat) : Int)) : (((((4 * v2) + (40 * v3)) + 13) + 1) : Nat) ≤ ((((4 * v2) + (40 * v3)) + 14) + (2 * v1)) := by omega
theorem om_29efded833ec {v0 v1 : Nat} (h0 : (v0 : Nat) < v1) : ((((v0 : Nat) : Int) + 1) : Int) ≤ ((v1 : Nat) : Int) := by omega
theorem om_2a0eeee67653 {v0 v1 v2 v3 : Int} (h0 : (0 : Int) ≤ v0) (h1 : (v0 : Int) ≤ v1) (h2 : (v2 : Int) ≤ 300) (h3 : (v1 : Int) < v2) (h4 : (v3 : Int) = (v0 + 0)) : (((0 : Int) ≤ v3) ∧ ((v3 : Int) ≤ 300)) := by omega
theorem om_2a12869603ad {v0 v1 v2 v3 v4 v5 : Int} (h0 : (v0 : Int) = v1) (h1 : (0 : Int) ≤ v2) (h2 : (v3 : Int) = (12 * v2)) (h3 : (v4 : Int) = (v3 + v0)) (h4 : (v5 : Int) = v1) (h5 : (0 : Int) ≤ v5) : (0 : Int) ≤ v4 := by omega
theorem om_2a1d35cd1d2b {v0 v1 v2 v3 v4 v5 v6 v7 v8 v9 v10 v11 v12 : Int} (h0 : (((v0 + v1) - v2) : Int) ≤ ((v3 + v4) - v5)) (h1 : (v6 : Int) = (v1 - 1)) (h2 : (v7 : Int) = v2) (h3 : (v8 : Int) = v6) (h4 : (v9 : Int) = v0) (h5 : (((v10 + v11) - v12) : Int) ≤ (((v9 + v8) - v7) + 1)) : (((v10 + v11) - v12) : Int) ≤ ((v3 + v4) - v5) := by omega
theorem om_2a2e744b66b7 {v0 : Int} (h0 : (v0 : Int) = 300) : (300 : Int) ≤ v0 := by omega
theorem om_2a30a9e45e25 {v0 v1 : Int} (h0 : (0 : Int) ≤ v0) (h1 : (v0 : Int) < 40) (h2 : (v1 : Int) = (v0 + 1)) : (((0 : Int) ≤ v1) ∧ ((v1 : Int) ≤ 40)) := by omega
theorem om_2a57709bda2c {v0 v1 v2 : Int} (h0 : (v0 : Int) ≤ 4000) (h1 : (0 : Int) ≤ v1) (h2 : (v1 : Int) ≤ v2) (h3 : (v2 : Int) < v0) : ((((-2147483648) : Int) ≤ (v1 + 1)) ∧ (((v1 + 1) : Int) ≤ 2147483647)) := by omega
theorem om_2a620600370f {v0 v1 : Int} (h0 : (0 : Int) ≤ v0) (h1 : (v1 : Int) ≤ 20) (h2 : (v0 : Int) < v1) : (((0 : Int) ≤ v0) ∧ ((v0 : Int) ≤ 19)) := by omega
theorem om_2a6bff8c4127 {v0 : Int} {v1 v2 : Nat} (h0 : ((10 - v0) : Int) ≤ ((v1 : Nat) : Int)) (h1 : (v0 : Int) ≤ 10) : ((0 + 1) : Nat) ≤ (((4 * v2) + (40 * v1)) + 14) := by omega
theorem om_2a9d11eea56d {v0 : Int} (h0 : (0 : Int) ≤ v0) (h1 : (v0 : Int) ≤ 11) : ((((-2147483648) : Int) ≤ (v0 + 1)) ∧ (((v0 + 1) : Int) ≤ 2147483647)) := by omega
theorem om_2aa1c3ce45ff {v0 v2 : Int} {v1 : Nat} (h0 : (v0 : Int) = (10000 * ((v1 : Nat) : Int))) (h1 : (v2 : Int) = v0) : (v2 : Int) = (10000 * ((v1 : Nat) : Int)) := by omega
theorem om_2ac6836f37af {v0 v1 v2 v3 : Int} (h0 : (0 : Int) ≤ v0) (h1 : (v1 : Int) = v0) (h2 : (v2 : Int) = v1) (h3 : (v3 : Int) ≤ (8048 - (6 * v2))) : (v3 : Int) ≤ 9999 := by omega
theorem om_2b495b26b828 {v0 v1 v2 v3 v4 : Int} (h0 : ((v0 - v1) : Int) ≤ 990000) (h1 : (v2 : Int) = 0) (h2 : (v3 : Int) = v1) (h3 : (v4 : Int) = v0) : (((v4 + v2) - v3) : Int) ≤ 999000 := by omega
theorem om_2bcde7824b0c {v0 v1 : Int} (h0 : (0 : Int) ≤ v0) (h1 : (v0 : Int) < 340) (h2 : (v1 : Int) = (v0 + 1)) : (((0 : Int) ≤ v1) ∧ ((v1 : Int) ≤ 340)) := by omega
theorem om_2bd216318aa2 {v0 v1 v2 v3 : Int} (h0 : (v0 : Int) ≤ 4000) (h1 : (0 : Int) ≤ v1) (h2 : ((v1 + v2) : Int) = v3) (h3 : (v3 : Int) < v0) (h4 : (9 : Int) ≤ v2) : ((((-2147483648) : Int) ≤ (v2 + 1)) ∧ (((v2 + 1) : Int) ≤ 2147483647)) := by omega
theorem om_2bedb82363d1 {v0 v2 : Int} {v1 v3 : Nat} (h0 : (v0 : Int) ≤ ((v1 : Nat) : Int)) (h1 : (v1 : Nat) = 24) (h2 : (v2 : Int) < v0) (h3 : (((v3 : Nat) : Int) : Int) = v2) : ((((-2147483648) : Int) ≤ (v2 + 1)) ∧ (((v2 + 1) : Int) ≤ 2147483647)) := by omega
theorem om_2c40928afc59 {v0 v1 v2 v3 v4 v5 v6 v7 v8 : Int} (h0 : (v0 : Int) ≤ v1) (h1 : (v2 : Int) = (v1 + 1)) (h2 : (v3 : Int) = v2) (h3 : (v4 : Int) = v0) (h4 : ((v5 - v4) : Int) ≤ (v6 - v3)) (h5 : ((v7 - v5) : Int) ≤ (v8 - v6)) (h6 : (v8 : Int) ≤ 300) (h7 : (0 : Int) ≤ v7) : ((((-2147483648) : Int) ≤ (v7 + 1)) ∧ (((v7 + 1) : Int) ≤ 2147483647)) := by omega
theorem om_2c59d391d7ea {v0 v1 v2 : Int} (h0 : (v0 : Int) < v1) (h1 : (v2 : Int) = v1) : (v0 : Int) ≤ v2 := by omega
theorem om_2c96052addad {v0 v1 v2 v3 : Int} (h0 : (v0 : Int) ≤ 300) (h1 : (0 : Int) ≤ v1) (h2 : (v1 : Int) ≤ v2) (h3 : (v2 : Int) < v0) (h4 : (v3 : Int) = (v1 + 1)) : (((0 : Int) ≤ v3) ∧ ((v3 : Int) ≤ 300)) := by omega
theorem om_2ca0db2d7d98 {v0 : Int} (h0 : (v0 : Int) = 142) : (v0 : Int) ≠ 0 := by omega
theorem om_2cb4eafcf217 {v0 v1 v2 v3 : Int} (h0 : (v0 : Int) ≤ v1) (h1 : (v2 : Int) = (v1 + 1)) (h2 : (v3 : Int) = v0) : (v3 : Int) ≤ v2 := by omega
theorem om_2cf97ca4525a {v0 v3 v4 v5 v6 v7 v8 v9 : Int} {v1 v2 : Nat} (h0 : (v0 : Int) = ((v1 : Nat) : Int)) (h1 : (v1 : Nat) < v2) (h2 : (v2 : Nat) ≤ 24) (h3 : (0 : Int) ≤ v3) (h4 : (v3 : Int) ≤ 1) (h5 : (0 : Int) ≤ v4) (h6 : (v5 : Int) ≤ 8) (h7 : (v4 : Int) < v5) (h8 : (v6 : Int) = (24 * v3)) (h9 : (v7 : Int) = (v6 + v0)) (h10 : (v8 : Int) = (8 * v7)) (h11 : (v9 : Int) = (v8 + v4)) : (((0 : Int) ≤ v9) ∧ ((v9 : Int) ≤ 383)) := by omega
theorem om_2cfbcc01d2b3 {v0 v1 v2 v3 v4 v5 v6 v7 v8 : Int} (h0 : (((v0 + v1) - v2) : Int) ≤ ((v3 + v4) - v5)) (h1 : (v4 : Int) ≤ v1) (h2 : (v6 : Int) = v2) (h3 : (v7 : Int) = v0) (h4 : (v8 : Int) = v4) : (((v7 + v8) - v6) : Int) ≤ ((v3 + v4) - v5) := by omega
theorem om_2d0d796c6c8f {v0 : Int} {v1 v2 : Nat} (h0 : ((10 - v0) : Int) ≤ ((v1 : Nat) : Int)) (h1 : (v0 : Int) ≤ 10) : ((0 + 1) : Nat) ≤ (((4 * v2) + (40 * v1)) + 8) := by omega
theorem om_2d776cd39ec8 {v0 v1 v2 v3 : Int} (h0 : (v0 : Int) ≤ 4000) (h1 : (0 : Int) ≤ v1) (h2 : (v2 : Int) < v0) (h3 : (v3 : Int) = (v2 - v1)) (h4 : (9 : Int) < v3) : (((0 : Int) ≤ v2) ∧ ((v2 : Int) ≤ 4000)) := by omega
theorem om_2dc2cab96cb3 {v0 v1 v2 v3 v4 v5 v6 v7 v8 v9 : Int} (h0 : (v0 : Int) ≤ v1) (h1 : (v2 : Int) = v0) (h2 : (v3 : Int) = v1) (h3 : ((v4 - v2) : Int) ≤ (v5 - v3)) (h4 : (v6 : Int) = v5) (h5 : (v7 : Int) = v4) (h6 : ((v8 - v7) : Int) ≤ (v9 - v6)) (h7 : (v9 : Int) ≤ 300) (h8 : (0 : Int) ≤ v8) : (((0 : Int) ≤ v8) ∧ ((v8 : Int) ≤ 300)) := by omega
theorem om_2ded83b7a657 {v0 : Int} (h0 : (v0 : Int) = 1) : (1 : Int) ≤ v0 := by omega
theorem om_2dee3eb3e2cf {v0 v2 : Int} {v1 : Nat} (h0 : ((7 - v0) : Int) ≤ ((v1 : Nat) : Int)) (h1 : (v2 : Int) = (v0 + 1)) : ((8 - v2) : Int) ≤ ((v1 : Nat) : Int) := by omega
theorem om_2e0ce331b730 {v0 v2 : Int} {v1 : Nat} (h0 : ((v0 + 1) : Int) < ((v1 : Nat) : Int)) (h1 : (v2 : Int) = (v0 + (-1))) : ((v2 + 1) : Int) < ((v1 : Nat) : Int) := by omega
theorem om_2e3eaf5dbc06 {v1 : Int} {v0 : Nat} (h0 : (((v0 : Nat) : Int) : Int) ≤ ((28 * v1) + 26)) (h1 : (v1 : Int) ≤ 9) : (v0 : Nat) ≤ 394 := by omega
theorem om_2e570e10cfc7 {v0 v1 v2 : Int} (h0 : (v0 : Int) ≤ 11) (h1 : (0 : Int) ≤ v0) (h2 : (0 : Int) ≤ v1) (h3 : (v1 : Int) ≤ 1) (h4 : (v2 : Int) = (12 * v1)) : ((((-2147483648) : Int) ≤ (v2 + v0)) ∧ (((v2 + v0) : Int) ≤ 2147483647)) := by omega
theorem om_2e61a80dd361 {v0 v1 : Int} {v2 : Nat} (h0 : (0 : Int) ≤ v0) (h1 : (v1 : Int) ≤ ((v2 : Nat) : Int)) (h2 : ((v0 + 1) : Int) ≤ v1) : (((0 : Int) ≤ v1) ∧ ((v1 : Int) ≤ ((v2 : Nat) : Int))) := by omega
theorem om_2e86d7b0ed9b {v0 v1 : Int} {v2 : Nat} (h0 : (v0 : Int) ≤ 12) (h1 : (((v1 + (400 * ((v2 : Nat) : Int))) + (30 * (13 - v0))) : Int) ≤ 19000) : (((v1 + (400 * ((v2 : Nat) : Int))) + 30) : Int) ≤ 19000 := by omega
theorem om_2eb8eca6c3d1 {v0 v1 v2 v3 v4 v5 : Int} (h0 : (v0 : Int) ≤ v1) (h1 : (v2 : Int) = v0) (h2 : (v3 : Int) = v1) (h3 : ((v4 - v2) : Int) ≤ (v5 - v3)) (h4 : (v5 : Int) ≤ 300) (h5 : (0 : Int) ≤ v4) : (((0 : Int) ≤ v4) ∧ ((v4 : Int) ≤ 300)) := by omega
theorem om_2ebe32d50835 {v0 : Int} (h0 : (0 : Int) ≤ v0) (h1 : (v0 : Int) ≤ 1) (h2 : (v0 : Int) ≠ 0) : (v0 : Int) = 1 := by omega
theorem om_2eec4243970d {v0 v1 : Nat} : (((8 + (6 + 11)) + (((100 * v0) + (1000 * v1)) + 460)) : Nat) ≤ (((100 * v0) + (1000 * v1)) + 560) := by omega
theorem om_2ef994e93b3d {v0 : Int} (h0 : (v0 : Int) = 131) : (v0 : Int) = 131 := by omega
theorem om_2f192a0d189d {v0 v1 : Nat} : (((((4 * v0) + (40 * v1)) + 12) + 1) : Nat) ≤ (((4 * v0) + (40 * v1)) + 13) := by omega
theorem om_2f2703deb5d3 {v0 : Int} {v1 v2 : Nat} (h0 : ((10 - v0) : Int) ≤ ((v1 : Nat) : Int)) (h1 : (v0 : Int) ≤ 10) : ((2 + 1) : Nat) ≤ (((4 * v2) + (40 * v1)) + 9) := by omega
theorem om_2f4666976db0 {v0 v1 v2 v3 : Int} (h0 : (v0 : Int) = v1) (h1 : (v1 : Int) ≤ (2 * v2)) (h2 : ((v2 + 1) : Int) ≤ v3) : (v0 : Int) ≤ (2 * v3) := by omega
theorem om_2fad6ca233d0 {v0 v1 v2 : Int} (h0 : (v0 : Int) ≤ v1) (h1 : (0 : Int) ≤ v0) (h2 : (v1 : Int) ≤ 300) (h3 : (v2 : Int) = v0) : (((0 : Int) ≤ v2) ∧ ((v2 : Int) ≤ 300)) := by omega
theorem om_300a5a5f0a99 {v0 : Int} {v1 : Nat} (h0 : ((7 - v0) : Int) ≤ ((v1 : Nat) : Int)) : ((7 - v0) : Int) ≤ ((v1 : Nat) : Int) := by omega
theorem om_3013ce33764f {v0 v2 v3 : Int} {v1 : Nat} (h0 : ((300 - v0) : Int) ≤ ((v1 : Nat) : Int)) (h1 : (v0 : Int) ≤ v2) (h2 : (v3 : Int) = v2) : ((300 - v3) : Int) ≤ ((v1 : Nat) : Int) := by omega
theorem om_30d39efafedb {v0 v1 v2 v3 : Int} (h0 : (v0 : Int) ≤ 4000) (h1 : (0 : Int) ≤ v1) (h2 : (v1 : Int) ≤ v2) (h3 : (v2 : Int) ≤ v3) (h4 : (v3 : Int) < v0) : ((((-2147483648) : Int) ≤ (v1 + 1)) ∧ (((v1 + 1) : Int) ≤ 2147483647)) := by omega
theorem om_30e08f75bde7 {v1 v3 : Int} {v0 v2 : Nat} (h0 : (((v0 : Nat) : Int) : Int) = v1) (h1 : (v1 : Int) < 400) (h2 : (v0 : Nat) = v2) (h3 : (v3 : Int) = (v1 + 1)) : (((0 : Int) ≤ v3) ∧ ((v3 : Int) ≤ 400)) := by omega
theorem om_30e81084b2be {v0 v1 : Int} (h0 : (v0 : Int) ≤ 12) (h1 : (v1 : Int) < v0) (h2 : (0 : Int) ≤ v1) : ((((-1) : Int) ≤ v1) ∧ ((v1 : Int) ≤ 47)) := by omega
theorem om_312829898d1d {v0 : Int} (h0 : (v0 : Int) ≤ 2) (h1 : (0 : Int) < v0) : (((0 : Int) ≤ v0) ∧ ((v0 : Int) ≤ 2)) := by omega
theorem om_31284b87f362 {v0 : Int} (h0 : (0 : Int) ≤ v0) (h1 : (v0 : Int) ≤ 3000) (h2 : (v0 : Int) ≠ 3000) : ((((-2147483648) : Int) ≤ (v0 + 1)) ∧ (((v0 + 1) : Int) ≤ 2147483647)) := by omega
theorem om_31405da48c91 {v0 v1 v2 v3 v4 v5 : Int} {v6 : Nat} (h0 : (v0 : Int) = 0) (h1 : (0 : Int) ≤ v1) (h2 : (v2 : Int) = v3) (h3 : (v4 : Int) ≤ v3) (h4 : (v5 : Int) ≤ ((v6 : Nat) : Int)) (h5 : (v2 : Int) ≤ v5) (h6 : ((v1 + 1) : Int) ≤ v4) : (((0 : Int) ≤ v5) ∧ ((((v5 : Int) ≤ ((v6 : Nat) : Int)) ∧ ((((v0 : Int) = 0) ∧ (((v1 + 1) : Int) ≤ v5)))))) := by omega
theorem om_3142f42e06e3 {v0 : Int} (h0 : (0 : Int) ≤ v0) (h1 : (v0 : Int) ≤ 16777215) : (((0 : Int) ≤ v0) ∧ ((v0 : Int) < 16777216)) := by omega
theorem om_315c31303419 {v1 v2 v3 v4 v5 v6 v7 : Int} {v0 : Nat} (h0 : (((v0 : Nat) : Int) : Int) = v1) (h1 : (v2 : Int) = (10000 * ((v0 : Nat) : Int))) (h2 : (v2 : Int) ≤ 10000) (h3 : (v3 : Int) = (24 * v1)) (h4 : (0 : Int) ≤ v4) (h5 : (v4 : Int) ≤ 24) (h6 : (v5 : Int) = (v3 + v4)) (h7 : (v4 : Int) ≠ 24) (h8 : (0 : Int) ≤ v6) (h9 : (v6 : Int) < 24) (h10 : (v7 : Int) = (24 * v5)) : ((((-2147483648) : Int) ≤ (v7 + v6)) ∧ (((v7 + v6) : Int) ≤ 2147483647)) := by omega
theorem om_318db15b188c {v0 : Int} (h0 : (v0 : Int) ≤ 999999) (h1 : (100 : Int) ≤ v0) : ((((-2147483648) : Int) ≤ (v0 + 1)) ∧ (((v0 + 1) : Int) ≤ 2147483647)) := by omega
theorem om_3196453e4318 {v0 v1 : Nat} (h0 : ((((v0 : Nat) : Int) + 1) : Int) ≤ ((v1 : Nat) : Int)) : ((((v0 : Nat) : Int) + 1) : Int) ≤ ((v1 : Nat) : Int) := by omega
theorem om_31a61188bc78 {v1 : Int} {v0 v2 : Nat} (h0 : (v0 : Nat) < 2) (h1 : (v1 : Int) ≤ 23) (h2 : (((v2 : Nat) : Int) : Int) = v1) : (((24 * v0) + v2) : Nat) < 48 := by omega
theorem om_31bfa1b830a4 {v0 : Nat} : (((8 + (3 + 11)) + ((300 * v0) + 240)) : Nat) ≤ ((300 * v0) + 265) := by omega
theorem om_323338d8a62d {v0 v2 : Int} {v1 : Nat} (h0 : ((300 - v0) : Int) < ((v1 : Nat) : Int)) (h1 : (v2 : Int) = (v0 + 1)) : ((300 - v2) : Int) < ((v1 : Nat) : Int) := by omega
theorem om_323b60121c06 {v0 : Nat} (h0 : (((v0 : Nat) : Int) : Int) ≤ 27) : (((v0 : Nat) : Int) : Int) ≤ 27 := by omega
theorem om_324fc6cf93cf {v0 v1 v2 v3 : Int} (h0 : (v0 : Int) ≤ 4000) (h1 : (0 : Int) ≤ v1) (h2 : (v1 : Int) ≤ v2) (h3 : (v2 : Int) < v0) (h4 : (v3 : Int) = (v2 + 1)) : (((0 : Int) ≤ v3) ∧ ((v3 : Int) ≤ 4000)) := by omega
theorem om_326b380669c8 {v0 v2 : Int} {v1 : Nat} (h0 : (v0 : Int) ≤ ((v1 : Nat) : Int)) (h1 : ((((v1 : Nat) : Int) - v0) : Int) < v2) : (0 : Int) ≤ (v2 - 1) := by omega
theorem om_326ced448563 {v0 : Int} (h0 : (1 : Int) ≤ v0) (h1 : (v0 : Int) ≤ 12) : (((0 : Int) ≤ v0) ∧ ((v0 : Int) ≤ 12)) := by omega
theorem om_3297cc680973 {v0 : Int} (h0 : (v0 : Int) = 1) (h1 : (v0 : Int) = 14) : False := by omega
theorem om_329ba45e95d3 {v0 v1 : Int} (h0 : (0 : Int) ≤ v0) (h1 : (v0 : Int) < 3000) (h2 : (v1 : Int) = (v0 + 1)) : (((0 : Int) ≤ v1) ∧ ((v1 : Int) ≤ 3000)) := by omega
theorem om_32cfa7192d4d {v0 : Int} (h0 : (v0 : Int) = 43) (h1 : (v0 : Int) ≠ 43) : False := by omega
theorem om_32d4cda3f1ef {v0 v1 v4 : Int} {v2 v3 : Nat} (h0 : (0 : Int) ≤ v0) (h1 : (v1 : Int) ≤ 23) (h2 : (v0 : Int) = ((v2 : Nat) : Int)) (h3 : (v1 : Int) = ((v3 : Nat) : Int)) (h4 : (v2 : Nat) ≤ v3) (h5 : (v4 : Int) = (v1 - v0)) : ((((-2147483648) : Int) ≤ (v4 + 1)) ∧ (((v4 + 1) : Int) ≤ 2147483647)) := by omega
theorem om_32d8c78beff1 {v0 : Int} (h0 : (0 : Int) ≤ v0) (h1 : (v0 : Int) ≤ 1) : ((((-2147483648) : Int) ≤ (1 - v0)) ∧ (((1 - v0) : Int) ≤ 2147483647)) := by omega
theorem om_335852ad0e4e {v0 : Int} (h0 : (v0 : Int) = 11) (h1 : (v0 : Int) = 12) : False := by omega
theorem om_33a318b92054 {v0 : Int} {v1 : Nat} (h0 : (v0 : Int) ≤ 7) (h1 : ((7 - v0) : Int) ≤ ((v1 : Nat) : Int)) : (((8 + (3 + 11)) + 21) : Nat) ≤ ((300 * v1) + 265) := by omega
theorem om_33b45fde6d20 {v0 : Int} (h0 : (v0 : Int) = 11) (h1 : (v0 : Int) = 13) : False := by omega
theorem om_33cb93b2b1dc {v0 : Int} {v1 v2 v3 : Nat} (h0 : (v0 : Int) ≤ 12) (h1 : ((12 - v0) : Int) ≤ ((v1 : Nat) : Int)) : (((8 + (11 + 11)) + (((100 * v2) + (1000 * v3)) + 500)) : Nat) ≤ ((((100 * v2) + (1000 * v3)) + 560) + (60 * v1)) := by omega
theorem om_340805fa7ccf {v0 v1 v2 v3 v4 v5 v6 v7 v8 : Int} (h0 : (v0 : Int) = v1) (h1 : (v2 : Int) = (v0 + 1)) (h2 : (v3 : Int) = v4) (h3 : (v5 : Int) = v6) (h4 : (v7 : Int) = v8) (h5 : (((v8 - v2) + 1) : Int) ≤ (2 * (v6 - v3))) : ((v7 - v1) : Int) ≤ (2 * (v5 - v4)) := by omega
theorem om_348456f2348a {v0 v1 v2 : Int} (h0 : (0 : Int) ≤ v0) (h1 : ((v0 + v1) : Int) ≤ 24) (h2 : (0 : Int) ≤ v2) (h3 : (v2 : Int) < v1) : ((((-2147483648) : Int) ≤ (v0 + v2)) ∧ (((v0 + v2) : Int) ≤ 2147483647)) := by omega
theorem om_34c92268e176 {v0 : Nat} : (((8 + (2 + 11)) + ((300 * v0) + 300)) : Nat) ≤ ((300 * v0) + 500) := by omega
theorem om_3548175b5d28 {v0 v2 v3 v7 : Int} {v1 v4 v5 v6 : Nat} (h0 : ((v0 + (192 * ((v1 : Nat) : Int))) : Int) ≤ v2) (h1 : (v3 : Int) = 0) (h2 : ((v4 + 1) : Nat) = v1) (h3 : (v5 : Nat) = v4) (h4 : (v6 : Nat) = v5) (h5 : (v7 : Int) = v0) : (((v7 + (192 * ((v6 : Nat) : Int))) + 192) : Int) ≤ (v2 + (24 * v3)) := by omega
theorem om_354a89fdc05f {v0 v1 v2 v3 v4 : Int} (h0 : (v0 : Int) = v1) (h1 : (v2 : Int) = v0) (h2 : (v3 : Int) = v2) (h3 : (v4 : Int) = v3) : (v4 : Int) = v1 := by omega
theorem om_354e64b0fd76 {v2 : Int} {v0 v1 : Nat} (h0 : (v0 : Nat) ≤ 24) (h1 : (((v1 : Nat) : Int) : Int) = v2) (h2 : (v1 : Nat) < v0) : (((0 : Int) ≤ v2) ∧ ((v2 : Int) ≤ 23)) := by omega
theorem om_3565982d3de2 {v0 v1 v2 v3 v4 : Int} (h0 : (v0 : Int) ≤ ((8 * v1) + v2)) (h1 : (v3 : Int) ≤ 8) (h2 : (v2 : Int) < v3) (h3 : (v4 : Int) = (v1 + 1)) : (v0 : Int) ≤ (8 * v4) := by omega
theorem om_35725b353402 {v0 v2 v3 v4 : Int} {v1 : Nat} (h0 : ((v0 + (400 * ((v1 : Nat) : Int))) : Int) ≤ 19000) (h1 : (v2 : Int) = v0) (h2 : (v3 : Int) = v2) (h3 : (v4 : Int) = v3) : ((v4 + (400 * ((v1 : Nat) : Int))) : Int) ≤ 19000 := by omega
theorem om_357e602e7667 {v0 : Int} (h0 : (0 : Int) ≤ v0) (h1 : (v0 : Int) < 3000) : ((((-2147483648) : Int) ≤ (v0 + 1)) ∧ (((v0 + 1) : Int) ≤ 2147483647)) := by omega
theorem om_35839bd490a5 {v0 : Int} {v1 : Nat} (h0 : ((v0 + (192 * ((v1 : Nat) : Int))) : Int) ≤ 4800) : ((v0 + (192 * ((v1 : Nat) : Int))) : Int) ≤ 4800 := by omega
theorem om_35946ed5e904 {v0 v1 v2 : Int} (h0 : (v0 : Int) ≤ 4) (h1 : (0 : Int) ≤ v1) (h2 : (v1 : Int) < v0) (h3 : (v2 : Int) = (v1 + 1)) : (((0 : Int) ≤ v2) ∧ ((v2 : Int) ≤ 4)) := by omega
theorem om_35983d6dbf42 {v0 v1 v2 v3 v4 v5 : Int} (h0 : (v0 : Int) = v1) (h1 : (0 : Int) ≤ v2) (h2 : (v3 : Int) = (24 * v2)) (h3 : (v4 : Int) = (v3 + v0)) (h4 : (v5 : Int) = v1) (h5 : (0 : Int) ≤ v5) : (0 : Int) ≤ v4 := by omega
theorem om_35b618113949 {v0 v1 v2 : Int} (h0 : (0 : Int) ≤ v0) (h1 : (v0 : Int) ≤ v1) (h2 : (v2 : Int) ≤ 40) (h3 : (v1 : Int) < v2) : ((((-2147483648) : Int) ≤ (v1 + 1)) ∧ (((v1 + 1) : Int) ≤ 2147483647)) := by omega
theorem om_3625e73a4d19 {v0 v1 : Int} (h0 : (v0 : Int) ≤ 20) (h1 : (v1 : Int) < v0) (h2 : (0 : Int) ≤ v1) : ((((-1) : Int) ≤ v1) ∧ ((v1 : Int) ≤ 19)) := by omega
theorem om_3643addc7216 {v0 v1 v2 : Int} (h0 : (0 : Int) ≤ v0) (h1 : (v0 : Int) ≤ v1) (h2 : (v1 : Int) < 340) (h3 : (v2 : Int) = (v1 + 1)) : (((0 : Int) ≤ v2) ∧ ((v2 : Int) ≤ 340)) := by omega
theorem om_3659b9a5dc43 {v0 v1 v2 : Int} (h0 : (v0 : Int) = 8) (h1 : (v1 : Int) = (v0 + 1)) (h2 : (v2 : Int) = (v1 - 1)) : (((0 : Int) ≤ v2) ∧ ((v2 : Int) ≤ 9)) := by omega
theorem om_365ca0b88d9c {v1 v2 v3 v4 v5 v7 v8 v9 : Int} {v0 v6 v10 : Nat} (h0 : (((v0 : Nat) : Int) : Int) = v1) (h1 : (v2 : Int) = v3) (h2 : (v4 : Int) = (24 * v1)) (h3 : (v5 : Int) = (v4 + v2)) (h4 : (((v6 : Nat) : Int) : Int) = ((24 * ((v0 : Nat) : Int)) + v3)) (h5 : (v7 : Int) < 24) (h6 : (v8 : Int) = (24 * v5)) (h7 : (v9 : Int) = (v8 + v7)) (h8 : (((v10 : Nat) : Int) : Int) = v9) : (v10 : Nat) < ((24 * v6) + 24) := by omega
theorem om_36888f5b3479 {v0 : Int} (h0 : (0 : Int) ≤ v0) (h1 : (v0 : Int) ≤ 70000) (h2 : (v0 : Int) ≠ 0) : (((0 : Int) ≤ v0) ∧ ((v0 : Int) ≤ 70000)) := by omega
theorem om_368ea046ad6c {v0 v1 : Int} (h0 : (0 : Int) ≤ v0) (h1 : (v0 : Int) ≤ 10) (h2 : (v0 : Int) ≠ 10) (h3 : (v1 : Int) = (v0 + 1)) : (((0 : Int) ≤ v1) ∧ ((v1 : Int) ≤ 10)) := by omega
theorem om_371d5b098a1c {v0 v1 v2 : Int} (h0 : (v0 : Int) < 12) (h1 : (v1 : Int) ≤ v0) (h2 : (0 : Int) < v1) (h3 : (v2 : Int) = (v0 + 1)) : (((0 : Int) ≤ v2) ∧ ((v2 : Int) ≤ 12)) := by omega
theorem om_37214edc89bb {v0 : Nat} : ((1 + 1) : Nat) ≤ ((10 * v0) + 10) := by omega
theorem om_37595bfb6665 {v0 : Int} (h0 : ((-5) : Int) ≤ v0) (h1 : (v0 : Int) ≤ 5000) : ((((-2147483648) : Int) ≤ (v0 + 1)) ∧ (((v0 + 1) : Int) ≤ 2147483647)) := by omega
theorem om_375f92f23f70 {v0 v2 v3 v4 v5 v6 v7 : Int} {v1 v8 v9 : Nat} (h0 : (((v0 + (192 * ((v1 : Nat) : Int))) + 192) : Int) ≤ ((v2 + (24 * v3)) + v4)) (h1 : (v5 : Int) = v0) (h2 : (v6 : Int) = (v5 + 1)) (h3 : (v7 : Int) = (v4 + 1)) (h4 : (v8 : Nat) = v1) (h5 : (v9 : Nat) = v8) : (((v6 + (192 * ((v9 : Nat) : Int))) + 192) : Int) ≤ ((v2 + (24 * v3)) + v7) := by omega
theorem om_37cc2b5663dd {v0 v2 : Int} {v1 : Nat} (h0 : (v0 : Int) ≤ ((v1 : Nat) : Int)) (h1 : (v1 : Nat) = 24) (h2 : (v2 : Int) < v0) : (v2 : Int) ≤ 23 := by omega
theorem om_37ccd7b5116d {v0 : Int} (h0 : (v0 : Int) = 7) : (v0 : Int) ≠ 3 := by omega
theorem om_38427244a37f {v0 : Nat} : (v0 : Nat) ≤ (2 * v0) := by omega
theorem om_3847cd3a5ac6 {v0 : Int} (h0 : (0 : Int) ≤ v0) (h1 : (v0 : Int) ≤ 24) (h2 : (v0 : Int) ≠ 24) : ((((-2147483648) : Int) ≤ (v0 + 1)) ∧ (((v0 + 1) : Int) ≤ 2147483647)) := by omega
theorem om_38683338768e {v1 : Int} {v0 v2 : Nat} (h0 : (((v0 : Nat) : Int) : Int) ≤ ((84 * v1) + 56)) (h1 : (v2 : Nat) = (0 + v0)) : (((v2 : Nat) : Int) : Int) ≤ ((84 * v1) + 56) := by omega
theorem om_38757deacf4c {v0 v1 : Int} (h0 : (0 : Int) ≤ v0) (h1 : (v1 : Int) ≤ 300) (h2 : (v0 : Int) < v1) : ((((-1) : Int) ≤ v0) ∧ ((v0 : Int) ≤ 299)) := by omega
theorem om_388b44137c0f {v0 v1 : Int} (h0 : (0 : Int) ≤ v0) (h1 : (v0 : Int) < 300) (h2 : (v1 : Int) = (v0 + 1)) : (((0 : Int) ≤ v1) ∧ ((v1 : Int) ≤ 1000000)) := by omega
theorem om_3891d7acfde9 {v0 : Nat} (h0 : (v0 : Nat) < 2) : (((5 * v0) + 1) : Nat) < 10 := by omega
theorem om_389cffd2cbd4 {v0 v1 : Int} (h0 : (1 : Int) ≤ v0) (h1 : (v0 : Int) < 40) (h2 : (v1 : Int) = (v0 + 1)) : (((1 : Int) ≤ v1) ∧ ((v1 : Int) ≤ 40)) := by omega
theorem om_38b7b0a95203 {v0 : Int} {v1 : Nat} (h0 : (v0 : Int) ≤ 8) (h1 : ((8 - v0) : Int) ≤ ((v1 : Nat) : Int)) : (((8 + (1 + 11)) + 0) : Nat) ≤ ((300 * v1) + 240) := by omega
theorem om_38bbca15f2be {v0 : Int} (h0 : (v0 : Int) ≤ 39) (h1 : (0 : Int) < v0) : ((((-2147483648) : Int) ≤ (v0 + (-1))) ∧ (((v0 + (-1)) : Int) ≤ 2147483647)) := by omega
theorem om_393feb9d3e2e {v0 : Int} (h0 : ((-1) : Int) ≤ v0) (h1 : (v0 : Int) ≤ 262143) (h2 : (v0 : Int) ≠ (-1)) : (((0 : Int) ≤ v0) ∧ ((v0 : Int) ≤ 262143)) := by omega
theorem om_396a75ceebac {v0 v1 v2 v3 v4 v5 v6 v7 v8 v9 v10 : Int} (h0 : (((v0 + v1) - v2) : Int) ≤ ((v3 + v4) - v5)) (h1 : (v3 : Int) ≤ v0) (h2 : (v6 : Int) = (v1 - 1)) (h3 : (v7 : Int) = v2) (h4 : (v8 : Int) = v6) (h5 : (v7 : Int) ≤ v9) (h6 : (v10 : Int) = v8) : ((v10 - v4) : Int) ≤ (v9 - v5) := by omega
theorem om_39b3ecab270b {v0 v1 : Int} (h0 : (v0 : Int) ≤ 19999) (h1 : (0 : Int) ≤ v0) (h2 : (v1 : Int) = (v0 + 1)) : (((0 : Int) ≤ v1) ∧ ((v1 : Int) ≤ 20000)) := by omega
theorem om_39cf4630b81f {v0 : Int} (h0 : (100 : Int) ≤ v0) : (100 : Int) ≤ v0 := by omega
theorem om_39e53adb401e {v0 : Int} (h0 : (v0 : Int) ≠ 0) (h1 : (v0 : Int) = 1) (h2 : (v0 : Int) = 0) : False := by omega
theorem om_39e657875414 {v0 : Nat} : (((8 + (1 + 11)) + ((300 * v0) + 460)) : Nat) ≤ ((300 * v0) + 500) := by omega
theorem om_39fe2737fdae {v0 : Int} {v1 : Nat} (h0 : (v0 : Int) = ((v1 : Nat) : Int)) (h1 : (v0 : Int) < 4000) : ((v1 + 1) : Nat) ≤ 4000 := by omega
theorem om_3a40a9f22a90 {v0 : Int} (h0 : (0 : Int) ≤ v0) (h1 : (v0 : Int) < 24) : ((((-2) : Int) ≤ v0) ∧ ((v0 : Int) ≤ 23)) := by omega
theorem om_3a4312d12b86 {v0 v1 v2 v3 v4 : Int} (h0 : (v0 : Int) ≤ (v1 + v2)) (h1 : (v3 : Int) = (v2 + 1)) (h2 : (v4 : Int) = v0) : (v4 : Int) ≤ (v1 + v3) := by omega
theorem om_3a591212d7d2 {v0 : Int} (h0 : (v0 : Int) = 15) (h1 : (v0 : Int) = 12) : False := by omega
theorem om_3aaf7229373d {v0 : Nat} (h0 : (v0 : Nat) < 2) : (((5 * v0) + 4) : Nat) < 10 := by omega
theorem om_3b17cd8605eb {v0 v1 v2 v3 v4 : Int} (h0 : (v0 : Int) ≤ 4000) (h1 : (0 : Int) ≤ v1) (h2 : (v1 : Int) ≤ v2) (h3 : (v3 : Int) < v0) (h4 : (v4 : Int) = (v3 - v2)) (h5 : (12 : Int) < v4) : ((((-2147483648) : Int) ≤ (v1 + 1)) ∧ (((v1 + 1) : Int) ≤ 2147483647)) := by omega
theorem om_3b1b1329b0cd {v0 : Nat} : (((8 + (3 + 11)) + ((300 * v0) + 380)) : Nat) ≤ ((300 * v0) + 420) := by omega
theorem om_3b5c2a59e72f {v0 v1 v2 : Int} (h0 : (v0 : Int) = (v1 + 1)) (h1 : ((7 - v1) : Int) < v2) : ((7 - v0) : Int) < (v2 - 1) := by omega
theorem om_3b855b385c13 {v0 v1 v2 v3 v4 v5 v6 v7 : Int} (h0 : ((v0 - v1) : Int) ≤ (v2 - v3)) (h1 : ((v4 - v5) : Int) ≤ (v0 - v1)) (h2 : (v5 : Int) < v4) (h3 : (v6 : Int) = v2) (h4 : (v6 : Int) ≤ v7) : (v3 : Int) ≤ v7 := by omega
theorem om_3b98457e2d8a {v0 : Int} (h0 : (v0 : Int) ≤ 39) (h1 : (0 : Int) ≤ v0) : ((((-2147483648) : Int) ≤ (24 * v0)) ∧ (((24 * v0) : Int) ≤ 2147483647)) := by omega
theorem om_3bf92271261c {v0 : Int} (h0 : (v0 : Int) = 0) : ((12 - v0) : Int) ≤ ((12 : Nat) : Int) := by omega
theorem om_3c0129424134 {v0 : Nat} : (((5 * v0) + 4) : Nat) = ((5 * v0) + 4) := by omega
theorem om_3c03d7db969c {v1 v2 v3 v4 : Int} {v0 : Nat} (h0 : (((v0 : Nat) : Int) : Int) < v1) (h1 : (v2 : Int) = (((v0 : Nat) : Int) + 1)) (h2 : (v3 : Int) = v2) (h3 : (v4 : Int) = v1) : (v3 : Int) ≤ v4 := by omega
theorem om_3c0fce7f0866 {v0 v1 v2 v3 : Int} (h0 : (v0 : Int) < v1) (h1 : (v2 : Int) = v1) (h2 : (v3 : Int) = v0) : (v3 : Int) < v2 := by omega
theorem om_3c23bb287a71 {v1 : Int} {v0 : Nat} (h0 : (((v0 : Nat) : Int) : Int) ≤ ((84 * v1) + 84)) (h1 : (v1 : Int) ≤ 10) (h2 : (v1 : Int) ≠ 10) : ((0 + v0) : Nat) ≤ 2000 := by omega
theorem om_3c70b874863d {v0 v2 : Int} {v1 : Nat} (h0 : ((40 - v0) : Int) < ((v1 : Nat) : Int)) (h1 : (v2 : Int) = (v0 + 1)) : ((40 - v2) : Int) < ((v1 : Nat) : Int) := by omega
theorem om_3c8d1444a74d {v0 : Nat} : (((8 + (2 + 11)) + 43) : Nat) ≤ ((300 * v0) + 500) := by omega
theorem om_3cbf875a340a {v0 v1 v2 v3 : Int} (h0 : (v0 : Int) = v1) (h1 : (v2 : Int) = v3) : ((v2 - v3) : Int) ≤ (v0 - v1) := by omega
theorem om_3ccfa1371c91 {v1 v2 v4 : Int} {v0 v3 : Nat} (h0 : (((v0 : Nat) : Int) : Int) ≤ ((28 * v1) + 26)) (h1 : (v2 : Int) = (v1 + 1)) (h2 : (v3 : Nat) = (v0 + 1)) (h3 : (v4 : Int) = v2) : (((v3 : Nat) : Int) : Int) ≤ (28 * v4) := by omega
theorem om_3cef7ac10bbb {v0 : Int} {v1 : Nat} (h0 : (0 : Int) ≤ v0) (h1 : (((v1 : Nat) : Int) : Int) = v0) (h2 : (v1 : Nat) < 24) : ((((-2147483648) : Int) ≤ (v0 + 1)) ∧ (((v0 + 1) : Int) ≤ 2147483647)) := by omega
theorem om_3cf819e5353c {v0 : Int} (h0 : (152 : Int) ≤ v0) : (v0 : Int) ≠ 0 := by omega
theorem om_3d4f17b65b82 {v0 v1 v2 v3 : Int} (h0 : (v0 : Int) ≤ v1) (h1 : (v2 : Int) = v1) (h2 : (v3 : Int) = v0) : (v3 : Int) ≤ v2 := by omega
theorem om_3d536421c2f2 {v0 : Int} (h0 : (v0 : Int) = 7) (h1 : (v0 : Int) = 3) : False := by omega
theorem om_3d6fa717bec1 {v0 : Int} (h0 : (v0 : Int) ≤ 400) (h1 : (0 : Int) < v0) : ((((-2147483648) : Int) ≤ (v0 - 1)) ∧ (((v0 - 1) : Int) ≤ 2147483647)) := by omega
theorem om_3d80cd9317f4 {v0 : Int} (h0 : (0 : Int) ≤ v0) (h1 : (v0 : Int) ≤ 299) : ((((-2147483648) : Int) ≤ (8 * v0)) ∧ (((8 * v0) : Int) ≤ 2147483647)) := by omega
theorem om_3d8b2ee29156 {v0 : Int} {v1 : Nat} (h0 : (v0 : Int) ≤ 8) (h1 : ((8 - v0) : Int) ≤ ((v1 : Nat) : Int)) : (((8 + (2 + 11)) + 0) : Nat) ≤ ((300 * v1) + 210) := by omega
theorem om_3da4b0e1dba1 {v0 : Int} (h0 : (v0 : Int) ≤ 11) (h1 : (0 : Int) ≤ v0) : ((((-2147483648) : Int) ≤ (v0 + (-1))) ∧ (((v0 + (-1)) : Int) ≤ 2147483647)) := by omega
theorem om_3dc1647238e7 {v0 v1 v2 v3 : Nat} (h0 : ((((v0 : Nat) : Int) + 1) : Int) ≤ ((v1 : Nat) : Int)) (h1 : (v2 : Nat) = v0) (h2 : (v3 : Nat) ≤ v2) : ((((v3 : Nat) : Int) + 1) : Int) ≤ ((v1 : Nat) : Int) := by omega
theorem om_3de30c5059a0 {v0 v2 v3 v4 v5 v6 v7 v8 v9 v10 : Int} {v1 : Nat} (h0 : (v0 : Int) = ((v1 : Nat) : Int)) (h1 : (v1 : Nat) ≤ 24) (h2 : (0 : Int) ≤ v2) (h3 : (v2 : Int) ≤ 1) (h4 : (v3 : Int) = v0) (h5 : (0 : Int) ≤ v4) (h6 : (v4 : Int) < v3) (h7 : (0 : Int) ≤ v5) (h8 : (v6 : Int) ≤ 8) (h9 : (v5 : Int) < v6) (h10 : (v7 : Int) = (24 * v2)) (h11 : (v8 : Int) = (v7 + v4)) (h12 : (v9 : Int) = (8 * v8)) (h13 : (v10 : Int) = (v9 + v5)) : (((0 : Int) ≤ v10) ∧ ((v10 : Int) ≤ 383)) := by omega
theorem om_3de61939a92f {v0 v2 : Int} {v1 v3 : Nat} (h0 : (v0 : Int) = ((v1 : Nat) : Int)) (h1 : (v0 : Int) ≤ v2) (h2 : (v3 : Nat) = (2 * v1)) (h3 : (v2 : Int) < ((v3 : Nat) : Int)) : (0 : Int) ≤ v2 := by omega
theorem om_3df77aab0049 {v0 v1 v2 v3 v4 v5 v6 : Int} (h0 : (v0 : Int) ≤ v1) (h1 : ((v2 - v0) : Int) ≤ (v3 - v1)) (h2 : (v4 : Int) = (v2 - 1)) (h3 : (v5 : Int) = v3) (h4 : (v6 : Int) = v4) : (v6 : Int) ≤ v5 := by omega
theorem om_3e0184275307 {v0 v1 v2 : Int} (h0 : (v0 : Int) ≤ 4000) (h1 : (0 : Int) ≤ v1) (h2 : (v1 : Int) ≤ v2) (h3 : (v2 : Int) < v0) : ((((-2147483648) : Int) ≤ (v2 - v1)) ∧ (((v2 - v1) : Int) ≤ 2147483647)) := by omega
theorem om_3e4db5a3624c {v0 v1 v2 : Int} (h0 : (v0 : Int) = 0) (h1 : (v1 : Int) = 0) (h2 : (v2 : Int) = 0) : (((v1 : Int) = 0) ∧ ((((v0 : Int) = 0) ∧ ((v2 : Int) = 0)))) := by omega
theorem om_3e9fea077503 {v0 v1 : Int} (h0 : (v0 : Int) = (-1)) (h1 : (0 : Int) ≤ v1) : (v0 : Int) < v1 := by omega
theorem om_3ea392a2a386 {v1 v2 : Int} {v0 : Nat} (h0 : (((v0 : Nat) : Int) : Int) = v1) (h1 : (v0 : Nat) < 8) (h2 : (v2 : Int) = (v1 + 1)) : (((0 : Int) ≤ v2) ∧ ((v2 : Int) ≤ 8)) := by omega
theorem om_3f1679de8734 {v0 v1 v2 v3 v4 v5 : Int} (h0 : ((((v0 - v1) - v2) + 1) : Int) ≤ ((v3 - v4) - v5)) : ((((v0 - v1) - v2) + 1) : Int) ≤ ((v3 - v4) - v5) := by omega
theorem om_3f4737cdcc85 {v0 v1 v2 v3 : Int} (h0 : (0 : Int) ≤ v0) (h1 : (v0 : Int) ≤ 23) (h2 : (0 : Int) ≤ v1) (h3 : (v2 : Int) ≤ 8) (h4 : (v1 : Int) < v2) (h5 : (v3 : Int) = (8 * v0)) : ((((-2147483648) : Int) ≤ (v3 + v1)) ∧ (((v3 + v1) : Int) ≤ 2147483647)) := by omega
theorem om_3f60d9ba98da {v0 v1 v2 : Int} (h0 : (0 : Int) ≤ v0) (h1 : (v0 : Int) ≤ 300) (h2 : (v0 : Int) ≠ 300) (h3 : (0 : Int) ≤ v1) (h4 : (v1 : Int) < 8) (h5 : (v2 : Int) = (8 * v0)) : ((((-2147483648) : Int) ≤ (v2 + v1)) ∧ (((v2 + v1) : Int) ≤ 2147483647)) := by omega
theorem om_3f6fe41b23e9 {v0 v1 v2 v3 : Int} (h0 : (v0 : Int) = (10000 * v1)) (h1 : (v2 : Int) = v1) (h2 : (v3 : Int) = v0) (h3 : (0 : Int) ≤ v3) : (0 : Int) ≤ v2 := by omega
theorem om_3f7d4d3a7b74 {v2 : Int} {v0 v1 : Nat} (h0 : (v0 : Nat) < v1) (h1 : (v2 : Int) = 0) : (v2 : Int) ≤ ((v1 : Nat) : Int) := by omega
theorem om_3f8aba7b6ce1 {v0 : Int} (h0 : (0 : Int) ≤ v0) (h1 : (v0 : Int) ≤ 1) : ((((-2147483648) : Int) ≤ (24 * v0)) ∧ (((24 * v0) : Int) ≤ 2147483647)) := by omega
theorem om_3f99e9309a7d {v1 : Int} {v0 v2 : Nat} (h0 : (((v0 : Nat) : Int) : Int) ≤ (((28 * v1) + 1) + (2 * ((v2 : Nat) : Int)))) (h1 : (v2 : Nat) ≤ 12) : (((v0 : Nat) : Int) : Int) ≤ ((28 * v1) + 25) := by omega
theorem om_3fcf2bbe4089 {v1 v2 v3 v4 v5 : Int} {v0 v6 : Nat} (h0 : (((v0 : Nat) : Int) : Int) = v1) (h1 : (v2 : Int) = v3) (h2 : (v4 : Int) = (24 * v1)) (h3 : (v5 : Int) = (v4 + v2)) (h4 : (((v6 : Nat) : Int) : Int) = ((24 * ((v0 : Nat) : Int)) + v3)) : (((v6 : Nat) : Int) : Int) = v5 := by omega
theorem om_401bcb1082c9 {v0 : Int} (h0 : (0 : Int) ≤ v0) (h1 : (v0 : Int) < 60000) : ((((-2147483648) : Int) ≤ (v0 + 1)) ∧ (((v0 + 1) : Int) ≤ 2147483647)) := by omega
theorem om_40300ceaa76f {v0 v1 : Int} (h0 : (0 : Int) ≤ v0) (h1 : (v0 : Int) ≤ 60000) (h2 : (v0 : Int) ≠ 60000) (h3 : (v1 : Int) = (v0 + 1)) : (((0 : Int) ≤ v1) ∧ ((v1 : Int) ≤ 60000)) := by omega
theorem om_4073e2f93091 {v0 v1 v2 : Int} (h0 : (v0 : Int) = v1) (h1 : (v2 : Int) = (v0 + 1)) : (v2 : Int) ≤ (v1 + 1) := by omega
theorem om_4099399d7215 {v0 : Int} {v1 : Nat} (h0 : (v0 : Int) ≤ 23) (h1 : (((v1 : Nat) : Int) : Int) = v0) : (((0 : Int) ≤ v0) ∧ ((v0 : Int) ≤ 23)) := by omega
theorem om_40d717123042 {v0 : Int} {v1 v2 : Nat} (h0 : ((300 - v0) : Int) ≤ ((v1 : Nat) : Int)) (h1 : (v0 : Int) ≤ 300) : ((0 + 1) : Nat) ≤ (((4 * v1) + (40 * v2)) + 9) := by omega
theorem om_40dab9707fad {v0 : Int} (h0 : (v0 : Int) = 45) : (v0 : Int) ≠ 0 := by omega
theorem om_40dc8202cd21 {v0 : Nat} : (((8 + (4 + 11)) + 0) : Nat) ≤ ((300 * v0) + 340) := by omega
theorem om_40e3b3767533 {v0 : Int} {v1 v2 : Nat} (h0 : ((10 - v0) : Int) ≤ ((v1 : Nat) : Int)) (h1 : (v0 : Int) ≤ 10) : (((8 + (6 + 11)) + 25) : Nat) ≤ (((100 * v2) + (1000 * v1)) + 500) := by omega
theorem om_40f2ea1c9679 {v0 : Int} (h0 : (1 : Int) ≤ v0) (h1 : (v0 : Int) ≤ 40) (h2 : (v0 : Int) ≠ 40) : ((((-2147483648) : Int) ≤ (24 * v0)) ∧ (((24 * v0) : Int) ≤ 2147483647)) := by omega
theorem om_41216cac6d14 {v0 : Int} (h0 : (v0 : Int) = 44) : (v0 : Int) ≠ 0 := by omega
theorem om_412a49c7d1d3 {v0 v2 v4 v5 : Int} {v1 v3 : Nat} (h0 : (0 : Int) ≤ v0) (h1 : (v0 : Int) = ((v1 : Nat) : Int)) (h2 : (v2 : Int) = ((v3 : Nat) : Int)) (h3 : (v1 : Nat) ≤ v3) (h4 : (v4 : Int) ≤ 24) (h5 : (v2 : Int) < v4) (h6 : (v5 : Int) = (v2 - v0)) : ((((-2147483648) : Int) ≤ (v5 + 1)) ∧ (((v5 + 1) : Int) ≤ 2147483647)) := by omega
theorem om_41782cfbfae1 {v0 v1 v2 : Int} (h0 : (((v0 - v1) - v2) : Int) ≤ 1000000001) : (((v0 - v1) - v2) : Int) ≤ 1000000001 := by omega
theorem om_41955fcb6566 {v0 v1 v2 v3 : Int} (h0 : (v0 : Int) ≤ 4000) (h1 : (0 : Int) ≤ v1) (h2 : (0 : Int) ≤ v2) (h3 : ((v1 + v2) : Int) = v3) (h4 : (v3 : Int) < v0) : ((((-2147483648) : Int) ≤ (v3 + 1)) ∧ (((v3 + 1) : Int) ≤ 2147483647)) := by omega
theorem om_41b7f2c202b6 {v0 : Int} {v1 : Nat} (h0 : (v0 : Int) ≤ ((v1 : Nat) : Int)) (h1 : (400 : Int) ≤ v0) : (399 : Nat) < v1 := by omega
theorem om_41c0109dc9e7 {v0 v1 v2 v3 v4 v5 : Int} (h0 : (v0 : Int) = v1) (h1 : (v2 : Int) = v3) (h2 : ((v4 - v2) : Int) ≤ (v5 - v0)) : ((v4 - v3) : Int) ≤ (v5 - v1) := by omega
theorem om_41cd80bc4fb8 {v0 v1 v2 : Int} (h0 : (v0 : Int) ≤ 40) (h1 : (0 : Int) ≤ v1) (h2 : (v1 : Int) ≤ v2) (h3 : (v2 : Int) < v0) : ((((-2147483648) : Int) ≤ (v1 + 1)) ∧ (((v1 + 1) : Int) ≤ 2147483647)) := by omega
theorem om_41e84b34b306 {v0 : Int} {v1 v2 : Nat} (h0 : (v0 : Int) = ((((10000 * v1) + v2) : Nat) : Int)) : (0 : Int) ≤ v0 := by omega
theorem om_420c7ba86e3d {v0 v1 : Int} (h0 : (v0 : Int) ≤ 6) (h1 : (0 : Int) ≤ v1) (h2 : (v1 : Int) < v0) : (((0 : Int) ≤ v0) ∧ ((v0 : Int) ≤ 6)) := by omega
theorem om_421710b9e5d2 {v0 : Int} {v1 : Nat} (h0 : (v0 : Int) = 0) : ((v0 + ((v1 : Nat) : Int)) : Int) ≤ ((v1 : Nat) : Int) := by omega
theorem om_42a03d5ac0bb {v0 v1 v2 v3 : Int} (h0 : (v0 : Int) ≤ 24) (h1 : (v1 : Int) = v0) (h2 : (0 : Int) ≤ v2) (h3 : (v2 : Int) ≤ v3) (h4 : (v3 : Int) < v1) : ((((-2147483648) : Int) ≤ (v2 + 1)) ∧ (((v2 + 1) : Int) ≤ 2147483647)) := by omega
theorem om_42c2de39aa8a {v0 : Nat} : ((((10 * v0) + 13) + 1) : Nat) ≤ ((10 * v0) + 14) := by omega
theorem om_42ceca764954 {v0 : Nat} (h0 : (((v0 : Nat) : Int) : Int) ≤ 20000) : (((v0 : Nat) : Int) : Int) ≤ 20000 := by omega
theorem om_42d0856690c4 {v0 v1 v2 v3 v4 v5 v6 v7 v8 v9 v10 v11 : Int} (h0 : (v0 : Int) ≤ v1) (h1 : (((v2 + v3) - v0) : Int) ≤ 999000) (h2 : (((v4 - v5) - v2) : Int) ≤ 1000000000) (h3 : (0 : Int) ≤ v3) (h4 : ((v6 - v0) : Int) ≤ (v7 - v1)) (h5 : (((v8 + v9) - v6) : Int) ≤ ((v2 + v3) - v0)) (h6 : (v9 : Int) = v3) (h7 : (((v10 - v11) - v8) : Int) ≤ (((v4 - v5) - v2) + 1)) (h8 : (v7 : Int) ≤ 300) (h9 : (v11 : Int) ≤ 3000) : (v10 : Int) ≤ 1999999999 := by omega
theorem om_42da437a9ba1 {v0 v2 v3 v4 v5 : Int} {v1 : Nat} (h0 : (v0 : Int) = ((v1 : Nat) : Int)) (h1 : (v2 : Int) ≤ 4000) (h2 : ((v0 + v3) : Int) = v4) (h3 : (v4 : Int) < v2) (h4 : (12 : Int) ≤ v3) (h5 : (v5 : Int) = (v3 + 1)) : (((0 : Int) ≤ v5) ∧ ((v5 : Int) ≤ 4000)) := by omega
theorem om_42de5d558cf5 {v0 v1 v2 v3 v4 v5 v6 v7 v8 v9 : Int} (h0 : (((v0 + v1) - v2) : Int) ≤ ((v3 + v4) - v5)) (h1 : (v6 : Int) = (v0 + 1)) (h2 : (v7 : Int) = v2) (h3 : (v8 : Int) = v6) (h4 : (v9 : Int) = v1) : (((v8 + v9) - v7) : Int) ≤ (((v3 + v4) - v5) + 1) := by omega
theorem om_42efdf012c14 {v1 : Int} {v0 : Nat} (h0 : (v0 : Nat) < 2) (h1 : (v1 : Int) = ((v0 : Nat) : Int)) : ((((-1) : Int) ≤ v1) ∧ ((v1 : Int) ≤ 1)) := by omega
theorem om_43104e6d7ef4 {v0 : Nat} (h0 : (((v0 : Nat) : Int) : Int) ≤ 1) : (((10000 * ((v0 : Nat) : Int)) + 10000) : Int) ≤ 20000 := by omega
theorem om_4313120d86f8 {v0 v1 : Int} (h0 : (v0 : Int) = (v1 - 1)) (h1 : (0 : Int) ≤ v0) : (0 : Int) ≤ v1 := by omega
theorem om_432134b60adb {v0 : Nat} : ((4 + 1) : Nat) ≤ ((10 * v0) + 14) := by omega
theorem om_436e3e958284 {v0 : Int} {v1 : Nat} (h0 : (v0 : Int) = ((v1 : Nat) : Int)) (h1 : (v0 : Int) < 8) : ¬ ((8 : Nat) ≤ v1) := by omega
theorem om_4377e9544e0d {v0 : Int} {v1 v2 : Nat} (h0 : ((10 - v0) : Int) ≤ ((v1 : Nat) : Int)) (h1 : (v0 : Int) ≤ 10) : (((8 + (1 + 11)) + 0) : Nat) ≤ (((100 * v2) + (1000 * v1)) + 560) := by omega
theorem om_43983c34cf22 {v0 v1 v2 : Int} (h0 : (v0 : Int) ≤ 23) (h1 : (0 : Int) ≤ v1) (h2 : (v1 : Int) ≤ v0) (h3 : (v2 : Int) = (v1 + 1)) : (((0 : Int) ≤ v2) ∧ ((v2 : Int) ≤ 24)) := by omega
theorem om_43b3f9a4c39f {v0 v1 : Int} (h0 : (v0 : Int) ≤ v1) (h1 : (v1 : Int) < 4000) : (v0 : Int) ≤ 3999 := by omega
theorem om_43ba304d22b8 {v0 v1 v2 v3 v4 v5 v6 : Int} (h0 : (v0 : Int) ≤ 4000) (h1 : (0 : Int) ≤ v1) (h2 : (v1 : Int) ≤ v2) (h3 : (v3 : Int) ≤ v4) (h4 : (v4 : Int) = v0) (h5 : (v5 : Int) = (v3 - v2)) (h6 : (9 : Int) < v5) (h7 : (v6 : Int) = (v1 + 1)) : (((0 : Int) ≤ v6) ∧ ((v6 : Int) ≤ 4000)) := by omega
theorem om_43f41a040878 {v0 v2 v4 : Int} {v1 v3 : Nat} (h0 : (0 : Int) ≤ v0) (h1 : (v0 : Int) = ((v1 : Nat) : Int)) (h2 : (v2 : Int) = ((v3 : Nat) : Int)) (h3 : (v1 : Nat) ≤ v3) (h4 : (v4 : Int) ≤ 24) (h5 : (v2 : Int) < v4) : ((((-2147483648) : Int) ≤ (v2 - v0)) ∧ (((v2 - v0) : Int) ≤ 2147483647)) := by omega
theorem om_43f57588f3c1 {v0 v1 v2 v3 : Int} (h0 : (0 : Int) ≤ v0) (h1 : (v0 : Int) ≤ 23) (h2 : (0 : Int) ≤ v1) (h3 : (v1 : Int) ≤ 1) (h4 : (v2 : Int) = (24 * v1)) (h5 : (v3 : Int) = (v2 + v0)) : ((((-2147483648) : Int) ≤ (8 * v3)) ∧ (((8 * v3) : Int) ≤ 2147483647)) := by omega
theorem om_43fd9d5bb9d6 {v0 v1 : Nat} : (((((216048 + (1054128 - v0)) + (6 * v1)) + 6) + 0) : Nat) ≤ ((216048 + (1054128 - v0)) + (6 * (v1 + 1))) := by omega
theorem om_444d8ab82b70 {v0 v1 v2 v3 v4 v5 v6 v7 v8 v9 : Int} (h0 : ((v0 - v1) : Int) ≤ (v2 - v3)) (h1 : (v4 : Int) = v0) (h2 : (v5 : Int) = v2) (h3 : ((v6 - v4) : Int) ≤ (v7 - v5)) (h4 : (v8 : Int) = v7) (h5 : (v9 : Int) = v6) : ((v9 - v1) : Int) ≤ (v8 - v3) := by omega
theorem om_4464765f026c {v0 : Int} (h0 : (0 : Int) ≤ v0) (h1 : (v0 : Int) < 12) : ((((-2147483648) : Int) ≤ (v0 + 1)) ∧ (((v0 + 1) : Int) ≤ 2147483647)) := by omega
theorem om_449de4392916 {v1 : Int} {v0 : Nat} (h0 : (((v0 : Nat) : Int) : Int) = (1 - v1)) (h1 : (v0 : Nat) < 2) : ((((-2147483648) : Int) ≤ (1 - v1)) ∧ (((1 - v1) : Int) ≤ 2147483647)) := by omega
theorem om_44a0a3faffcf {v0 v1 : Int} (h0 : (0 : Int) ≤ v0) (h1 : (v0 : Int) < 4000) (h2 : (v1 : Int) = (v0 + 1)) : (((0 : Int) ≤ v1) ∧ ((v1 : Int) ≤ 4000)) := by omega
theorem om_44a1f954dd54 {v0 v1 v3 : Int} {v2 : Nat} (h0 : (v0 : Int) = (v1 + ((v2 : Nat) : Int))) (h1 : (v3 : Int) = v0) : (v3 : Int) = (v1 + ((v2 : Nat) : Int)) := by omega
theorem om_44c41a7cc1f7 {v0 v1 v2 v3 : Int} (h0 : (v0 : Int) ≤ (v1 + v2)) (h1 : (v2 : Int) < 340) (h2 : (v3 : Int) = v0) : (v3 : Int) ≤ (v1 + 340) := by omega
theorem om_44df4afcfa21 {v0 : Int} {v1 v2 : Nat} (h0 : ((10 - v0) : Int) ≤ ((v1 : Nat) : Int)) (h1 : (v0 : Int) ≤ 10) : (((8 + (1 + 11)) + 0) : Nat) ≤ (((100 * v2) + (1000 * v1)) + 320) := by omega
theorem om_44ef469b3d0d {v0 v1 v2 v3 v4 v5 : Int} (h0 : (0 : Int) ≤ v0) (h1 : (v0 : Int) ≤ 1) (h2 : ((-1) : Int) ≤ v1) (h3 : (v1 : Int) ≤ 23) (h4 : (0 : Int) ≤ v2) (h5 : (v2 : Int) < 24) (h6 : (v3 : Int) = (24 * v0)) (h7 : (v4 : Int) = (v3 + v1)) (h8 : (v5 : Int) = (24 * v4)) : ((((-2147483648) : Int) ≤ (v5 + v2)) ∧ (((v5 + v2) : Int) ≤ 2147483647)) := by omega
theorem om_44f900edd785 {v0 v1 v2 v3 v4 : Int} (h0 : (v0 : Int) ≤ ((8 * v1) + v2)) (h1 : (v3 : Int) ≤ (v0 + 1)) (h2 : (v4 : Int) = (v2 + 1)) : (v3 : Int) ≤ ((8 * v1) + v4) := by omega
theorem om_450cba72217c {v0 : Int} (h0 : (0 : Int) ≤ v0) (h1 : (v0 : Int) ≤ 12) : ((((-2147483648) : Int) ≤ (v0 - 1)) ∧ (((v0 - 1) : Int) ≤ 2147483647)) := by omega
theorem om_451ae73b5ddd {v0 : Int} (h0 : (v0 : Int) ≤ 11) (h1 : (0 : Int) ≤ v0) : ((((-1) : Int) ≤ v0) ∧ ((v0 : Int) ≤ 11)) := by omega
theorem om_4548e3a3f150 {v0 v1 v2 v3 v4 v5 : Int} (h0 : (v0 : Int) ≤ v1) (h1 : ((v2 - v0) : Int) ≤ (v3 - v1)) (h2 : ((v4 - v2) : Int) ≤ (v5 - v3)) (h3 : (v5 : Int) ≤ 300) (h4 : (0 : Int) ≤ v4) : (((0 : Int) ≤ v4) ∧ ((v4 : Int) ≤ 300)) := by omega
theorem om_455978680aa0 {v0 : Int} (h0 : (v0 : Int) ≤ 299) (h1 : (300 : Int) ≤ v0) : False := by omega
theorem om_458065506e61 {v0 v1 v2 : Int} (h0 : (v0 : Int) < v1) (h1 : (v0 : Int) = v2) : (v2 : Int) < v1 := by omega
theorem om_45aa31722d3e {v0 v1 : Int} (h0 : (0 : Int) ≤ v0) (h1 : (v1 : Int) ≤ 8) (h2 : (v0 : Int) < v1) : (((0 : Int) ≤ v0) ∧ ((v0 : Int) ≤ 7)) := by omega
theorem om_45b01acb040a {v0 : Int} (h0 : (0 : Int) ≤ v0) (h1 : (v0 : Int) ≤ 8200) : ((((-2147483648) : Int) ≤ (v0 + 1)) ∧ (((v0 + 1) : Int) ≤ 2147483647)) := by omega
theorem om_461024ef9d0d {v0 v3 v4 : Int} {v1 v2 : Nat} (h0 : (v0 : Int) = ((v1 : Nat) : Int)) (h1 : (v1 : Nat) < v2) (h2 : (v3 : Int) = ((v2 : Nat) : Int)) (h3 : (v4 : Int) = v3) (h4 : (v4 : Int) ≤ v0) : False := by omega
theorem om_468cbb7a04cb {v0 v1 v2 : Int} (h0 : (0 : Int) ≤ v0) (h1 : (v0 : Int) < v1) (h2 : (v2 : Int) = v1) : (((0 : Int) ≤ v0) ∧ ((v0 : Int) < v2)) := by omega
theorem om_46f113951c8c {v0 v2 : Int} {v1 : Nat} (h0 : (v0 : Int) < ((v1 : Nat) : Int)) (h1 : (v2 : Int) = (v0 + (-1))) : (v2 : Int) < ((v1 : Nat) : Int) := by omega
theorem om_47058e563f80 {v0 v1 v2 : Int} (h0 : (v0 : Int) = v1) (h1 : (v1 : Int) ≤ 40) (h2 : (0 : Int) ≤ v2) (h3 : (v2 : Int) < v0) : (((0 : Int) ≤ v2) ∧ ((v2 : Int) ≤ 39)) := by omega
theorem om_4710715acdbe {v0 v1 : Int} (h0 : (0 : Int) ≤ v0) (h1 : (v0 : Int) ≤ 9) (h2 : (v1 : Int) = (v0 + 1)) : (((0 : Int) ≤ v1) ∧ ((v1 : Int) ≤ 10)) := by omega
theorem om_47191c41e5d9 {v0 v1 v2 v3 v4 : Int} (h0 : (0 : Int) ≤ v0) (h1 : (v0 : Int) ≤ 10) (h2 : (v0 : Int) ≠ 10) (h3 : (v1 : Int) = (v0 + 1)) (h4 : (v2 : Int) = v1) (h5 : (v3 : Int) = v2) (h6 : (v4 : Int) = (v3 - 1)) : (((0 : Int) ≤ v4) ∧ ((v4 : Int) ≤ 10)) := by omega
theorem om_474d9bc6967f {v0 v1 v2 v3 : Int} (h0 : (0 : Int) ≤ v0) (h1 : (v1 : Int) = v0) (h2 : (v2 : Int) = v1) (h3 : (v3 : Int) ≤ (8049 - (6 * v2))) : (v3 : Int) ≤ 9999 := by omega
theorem om_47921a11ec63 {v0 v1 v2 v3 : Nat} (h0 : ((v0 + 1) : Nat) = v1) (h1 : (v2 : Nat) = v0) (h2 : (v3 : Nat) = v2) : ((((v3 : Nat) : Int) + 1) : Int) ≤ ((v1 : Nat) : Int) := by omega
theorem om_47a8ef3df96a {v0 : Int} (h0 : (v0 : Int) = 9) (h1 : (v0 : Int) = 3) : False := by omega
theorem om_47f5b5143481 {v0 v2 v3 v4 : Int} {v1 : Nat} (h0 : (((v0 + (192 * ((v1 : Nat) : Int))) + 192) : Int) ≤ (v2 + (24 * v3))) (h1 : (v4 : Int) = 0) : (((v0 + (192 * ((v1 : Nat) : Int))) + 192) : Int) ≤ ((v2 + (24 * v3)) + v4) := by omega
theorem om_480f5491841b {v0 v1 v2 : Int} {v3 : Nat} (h0 : (v0 : Int) ≤ 300) (h1 : (v1 : Int) < v2) (h2 : (v1 : Int) = ((v3 : Nat) : Int)) (h3 : (v2 : Int) ≤ v0) : ((((-1) : Int) ≤ v1) ∧ ((v1 : Int) ≤ 299)) := by omega
theorem om_484f1d066a6d {v0 : Nat} : (0 : Int) ≤ (((v0 : Nat) : Int) + 1) := by omega
theorem om_488a44a78ba0 {v0 v1 v3 v4 : Int} {v2 : Nat} (h0 : (v0 : Int) ≤ 12) (h1 : ((10 - v1) : Int) ≤ ((v2 : Nat) : Int)) (h2 : (((v3 + (400 * ((v2 : Nat) : Int))) + (30 * (14 - v0))) : Int) ≤ 19000) (h3 : (0 : Int) ≤ v3) (h4 : (v4 : Int) = v1) (h5 : (v4 : Int) ≤ 10) : (((0 : Int) ≤ v3) ∧ ((v3 : Int) ≤ 20000)) := by omega
theorem om_489e76f0c04e {v0 v1 : Int} (h0 : (v0 : Int) = (-1)) (h1 : (v1 : Int) = v0) : (v1 : Int) = (-1) := by omega
theorem om_48d376e72754 {v0 v1 v2 v3 v4 : Int} (h0 : (1 : Int) ≤ v0) (h1 : (0 : Int) ≤ v1) (h2 : (v2 : Int) = (16 * v1)) (h3 : (v3 : Int) = (v0 + v2)) (h4 : (v4 : Int) = v3) : (1 : Int) ≤ v4 := by omega
theorem om_491333b5ac6e {v0 v1 v2 : Nat} (h0 : (((v0 : Nat) : Int) : Int) ≤ ((v1 : Nat) : Int)) (h1 : ((((v2 : Nat) : Int) + 1) : Int) ≤ ((v0 : Nat) : Int)) : ((1 + 1) : Nat) ≤ ((10 * v1) + 8) := by omega
theorem om_492a70219c59 {v0 v2 : Int} {v1 : Nat} (h0 : ((v0 + ((v1 : Nat) : Int)) : Int) = 8) (h1 : (0 : Int) ≤ v0) (h2 : (v2 : Int) = (v0 + 1)) : ((((-2147483648) : Int) ≤ (v2 - 1)) ∧ (((v2 - 1) : Int) ≤ 2147483647)) := by omega
theorem om_492d5f0cbee7 {v0 v1 v2 v3 v4 v5 v6 v7 : Int} (h0 : (v0 : Int) = v1) (h1 : (v2 : Int) = v3) (h2 : ((v4 - v0) : Int) ≤ (v5 - v2)) (h3 : (v6 : Int) = v5) (h4 : (v7 : Int) = v4) : ((v7 - v1) : Int) ≤ (v6 - v3) := by omega
theorem om_495cabaa3c36 {v0 : Int} (h0 : (v0 : Int) ≠ 60) (h1 : (v0 : Int) = 61) (h2 : (v0 : Int) = 60) : False := by omega
theorem om_49a7161795ae {v0 : Int} (h0 : (v0 : Int) ≤ 7) : (v0 : Int) ≤ 7 := by omega
theorem om_49db9c85ed89 {v0 : Int} {v1 v2 v3 : Nat} (h0 : ((12 - v0) : Int) ≤ ((v1 : Nat) : Int)) (h1 : (v0 : Int) ≤ 11) : (((8 + (4 + 11)) + 0) : Nat) ≤ ((((100 * v2) + (1000 * v3)) + 560) + (60 * v1)) := by omega
theorem om_4a290ed80e15 {v0 v1 v2 v3 v4 v5 : Int} (h0 : (0 : Int) ≤ v0) (h1 : (v0 : Int) ≤ 1) (h2 : (v1 : Int) = (24 * v0)) (h3 : (0 : Int) ≤ v2) (h4 : (v2 : Int) ≤ 24) (h5 : (v3 : Int) = (v1 + v2)) (h6 : (v2 : Int) ≠ 24) (h7 : (0 : Int) ≤ v4) (h8 : (v4 : Int) < 24) (h9 : (v5 : Int) = (24 * v3)) : ((((-2147483648) : Int) ≤ (v5 + v4)) ∧ (((v5 + v4) : Int) ≤ 2147483647)) := by omega
theorem om_4a983af70113 {v0 : Int} (h0 : (1 : Int) ≤ v0) (h1 : (v0 : Int) ≤ 1) : (((0 : Int) ≤ v0) ∧ ((v0 : Int) ≤ 2)) := by omega
theorem om_4a99a0b23375 {v0 v1 v2 v3 : Int} (h0 : (v0 : Int) ≤ 4000) (h1 : (0 : Int) ≤ v1) (h2 : (v1 : Int) ≤ v2) (h3 : (v2 : Int) < v0) (h4 : (v3 : Int) = (v1 + 1)) : (((0 : Int) ≤ v3) ∧ ((v3 : Int) ≤ 4000)) := by omega
theorem om_4ac19d2b922c {v0 : Int} (h0 : (v0 : Int) = 9) (h1 : (v0 : Int) = 13) : False := by omega
theorem om_4b9ad9f96dbc {v0 v2 v3 v4 v5 v6 v7 : Int} {v1 : Nat} (h0 : (v0 : Int) = ((v1 : Nat) : Int)) (h1 : (0 : Int) ≤ v2) (h2 : (0 : Int) ≤ v3) (h3 : (v4 : Int) = (24 * v2)) (h4 : (v5 : Int) = (v4 + v0)) (h5 : (v6 : Int) = (8 * v5)) (h6 : (v7 : Int) = (v6 + v3)) : (0 : Int) ≤ v7 := by omega
theorem om_4bc1f7c5a8a4 {v0 : Int} {v1 : Nat} (h0 : (v0 : Int) = ((v1 : Nat) : Int)) (h1 : (v0 : Int) ≤ 4000) : (v1 : Nat) ≤ 4000 := by omega
theorem om_4bc57dcfbd4f {v0 : Int} {v1 : Nat} (h0 : ((24 - v0) : Int) ≤ ((v1 : Nat) : Int)) (h1 : (v0 : Int) < 24) : ((3 + 1) : Nat) ≤ ((10 * v1) + 8) := by omega
theorem om_4bd522432616 {v0 v2 v3 v4 : Int} {v1 : Nat} (h0 : (v0 : Int) = ((v1 : Nat) : Int)) (h1 : (v1 : Nat) ≤ 24) (h2 : (0 : Int) ≤ v2) (h3 : (0 : Int) ≤ v3) (h4 : (v3 : Int) < v0) (h5 : (v2 : Int) < 100) (h6 : (v4 : Int) = (24 * v2)) : ((((-2147483648) : Int) ≤ (v4 + v3)) ∧ (((v4 + v3) : Int) ≤ 2147483647)) := by omega
theorem om_4c3fb6bc78c8 {v0 v1 v2 : Int} (h0 : (v0 : Int) = 0) (h1 : (v1 : Int) = v2) : (v1 : Int) ≤ (v2 + v0) := by omega
theorem om_4c4f47d165b0 {v0 v1 v2 v3 : Int} (h0 : (v0 : Int) = v1) (h1 : (v2 : Int) = v3) : (((v2 : Int) = v3) ∧ ((v0 : Int) = v1)) := by omega
theorem om_4c597ccc4a45 {v0 v2 : Int} {v1 : Nat} (h0 : ((1000000 - v0) : Int) < ((v1 : Nat) : Int)) (h1 : (v2 : Int) = (v0 + 1)) : ((1000000 - v2) : Int) < ((v1 : Nat) : Int) := by omega
theorem om_4c5c8c302950 {v0 v1 : Int} (h0 : (v0 : Int) ≤ 9000) (h1 : (0 : Int) ≤ v0) (h2 : (0 : Int) ≤ v1) (h3 : (v1 : Int) ≤ 10000) : ((((-2147483648) : Int) ≤ (v1 + v0)) ∧ (((v1 + v0) : Int) ≤ 2147483647)) := by omega
theorem om_4c7236201e99 {v0 v1 v2 : Int} (h0 : (v0 : Int) ≤ 8200) (h1 : (0 : Int) ≤ v1) (h2 : (v1 : Int) < v0) (h3 : (v2 : Int) = (v1 + 1)) : (((0 : Int) ≤ v2) ∧ ((v2 : Int) ≤ 8200)) := by omega
theorem om_4c7f92a00236 {v0 : Nat} (h0 : (v0 : Nat) < 12) : (((136 + (1 * v0)) + 1) : Nat) ≤ 148 := by omega
theorem om_4cae009fab1f {v0 v1 v2 v3 v4 v5 v6 : Int} (h0 : (v0 : Int) ≤ v1) (h1 : ((v1 + 1) : Int) ≤ v2) (h2 : ((v3 - v1) : Int) ≤ (v4 - v2)) (h3 : ((v5 - v0) : Int) ≤ (v3 - v1)) (h4 : (v4 : Int) ≤ 300) (h5 : (v6 : Int) = v5) : (v6 : Int) ≤ 299 := by omega
theorem om_4cc0859dcfdf {v0 : Int} {v1 v2 : Nat} (h0 : ((300 - v0) : Int) ≤ ((v1 : Nat) : Int)) (h1 : (v0 : Int) ≤ 300) : ((3 + 1) : Nat) ≤ (((4 * v1) + (40 * v2)) + 16) := by omega
theorem om_4d08c4de4ce6 {v0 v1 v2 v3 v4 v5 v6 v7 v8 v9 : Int} (h0 : (v0 : Int) ≤ v1) (h1 : (v2 : Int) ≤ v0) (h2 : (v3 : Int) = (v1 + 1)) (h3 : (v4 : Int) = v3) (h4 : (v5 : Int) = v2) (h5 : ((v6 - v7) : Int) ≤ (v8 - v4)) (h6 : ((v9 - v5) : Int) ≤ (v6 - v7)) (h7 : (v8 : Int) ≤ 300) : (v9 : Int) ≤ 299 := by omega
theorem om_4d13a6667c0a {v1 v3 : Int} {v0 v2 : Nat} (h0 : ((((v0 : Nat) : Int) + 1) : Int) = v1) (h1 : (v2 : Nat) = v0) (h2 : (v2 : Nat) ≤ 394) (h3 : (v3 : Int) = v1) : (v3 : Int) ≤ 395 := by omega
theorem om_4d17b072da10 {v0 : Int} {v1 : Nat} (h0 : (v0 : Int) ≤ 8) (h1 : ((8 - v0) : Int) ≤ ((v1 : Nat) : Int)) : (((8 + (2 + 11)) + 0) : Nat) ≤ ((300 * v1) + 150) := by omega
theorem om_4dba32c450a6 {v1 v2 v3 v4 : Int} {v0 : Nat} (h0 : (((v0 : Nat) : Int) : Int) ≤ ((84 * v1) + 84)) (h1 : (v2 : Int) = (v1 + 1)) (h2 : (v3 : Int) = v2) (h3 : (v4 : Int) = v3) : (((v0 : Nat) : Int) : Int) ≤ (84 * v4) := by omega
theorem om_4e3c60c30f90 {v0 : Int} (h0 : (v0 : Int) = 6) : (((1 : Int) ≤ v0) ∧ ((v0 : Int) ≤ 11)) := by omega
theorem om_4e47565b2ae9 {v0 : Int} (h0 : (0 : Int) ≤ v0) (h1 : (v0 : Int) ≤ 300) (h2 : (v0 : Int) ≠ 300) : (((0 : Int) ≤ v0) ∧ ((v0 : Int) ≤ 299)) := by omega
theorem om_4eb8090a83ba {v0 v1 v2 v3 v4 v5 v6 : Int} (h0 : (0 : Int) ≤ v0) (h1 : (v0 : Int) ≤ 23) (h2 : (0 : Int) ≤ v1) (h3 : (v1 : Int) ≤ 1) (h4 : (0 : Int) ≤ v2) (h5 : (v3 : Int) ≤ 8) (h6 : (v2 : Int) < v3) (h7 : (v4 : Int) = (24 * v1)) (h8 : (v5 : Int) = (v4 + v0)) (h9 : (v6 : Int) = (8 * v5)) : ((((-2147483648) : Int) ≤ (v6 + v2)) ∧ (((v6 + v2) : Int) ≤ 2147483647)) := by omega
theorem om_4f2a7ae89657 {v0 v1 v2 v3 v4 v5 : Int} (h0 : (((v0 - v1) - v2) : Int) ≤ 1000000000) (h1 : (((v3 - v4) - v5) : Int) ≤ ((v0 - v1) - v2)) : (((v3 - v4) - v5) : Int) ≤ 1000000000 := by omega
theorem om_4f3e21c63296 {v1 v4 : Int} {v0 v2 v3 : Nat} (h0 : (v0 : Nat) < 2) (h1 : (v1 : Int) ≤ ((v2 : Nat) : Int)) (h2 : (v2 : Nat) = 24) (h3 : (((v3 : Nat) : Int) : Int) = v4) (h4 : (v4 : Int) < v1) : (((24 * v0) + v3) : Nat) < 48 := by omega
theorem om_4f42a8f7b218 {v0 v1 : Int} (h0 : (1 : Int) < v0) (h1 : (v1 : Int) = 0) : (v1 : Int) ≤ v0 := by omega
theorem om_4f46abbfee0e {v0 v1 v2 : Int} (h0 : (v0 : Int) ≤ v1) (h1 : (v1 : Int) ≤ v2) (h2 : (0 : Int) ≤ v0) : (0 : Int) ≤ v2 := by omega
theorem om_4f4755e15199 {v0 v1 : Int} (h0 : (v0 : Int) = 0) (h1 : (v1 : Int) = 0) : (v0 : Int) ≤ v1 := by omega
theorem om_4f6a23dd234a {v0 v1 v2 v3 v4 v5 v6 : Int} (h0 : (v0 : Int) = v1) (h1 : (v2 : Int) = (v0 + 1)) (h2 : (v3 : Int) = v2) (h3 : (v4 : Int) = v3) (h4 : (v5 : Int) = (v4 - 1)) (h5 : (v6 : Int) = v5) : ((v6 + 1) : Int) = (v1 + 1) := by omega
theorem om_4f88dce44f0b {v0 v1 v2 v3 v4 v5 v7 : Int} {v6 : Nat} (h0 : (v0 : Int) = 0) (h1 : (0 : Int) ≤ v1) (h2 : (v2 : Int) = v3) (h3 : ((v2 + 1) : Int) ≤ v4) (h4 : (v5 : Int) ≤ ((v6 : Nat) : Int)) (h5 : (v4 : Int) ≤ v5) (h6 : ((v7 + 1) : Int) ≤ v3) (h7 : ((v1 + 1) : Int) ≤ v7) : (((0 : Int) ≤ v5) ∧ ((((v5 : Int) ≤ ((v6 : Nat) : Int)) ∧ ((((v0 : Int) = 0) ∧ (((v1 + 1) : Int) ≤ v5)))))) := by omega
theorem om_4fa6fbbd3eb2 {v0 v1 : Nat} : (((8 + (4 + 11)) + (((100 * v0) + (1000 * v1)) + 500)) : Nat) ≤ (((100 * v0) + (1000 * v1)) + 620) := by omega
theorem om_4fb6e092f2e8 {v1 : Int} {v0 : Nat} (h0 : (((v0 : Nat) : Int) : Int) ≤ (28 * v1)) (h1 : (v1 : Int) ≤ 10) : (v0 : Nat) ≤ 394 := by omega
theorem om_4fd58c11036c {v0 v2 v3 v4 : Int} {v1 : Nat} (h0 : (v0 : Int) = ((v1 : Nat) : Int)) (h1 : (v1 : Nat) ≤ 24) (h2 : (0 : Int) ≤ v2) (h3 : (v2 : Int) < v0) (h4 : (v3 : Int) ≤ 39) (h5 : (0 : Int) ≤ v3) (h6 : (v4 : Int) = (24 * v3)) : ((((-2147483648) : Int) ≤ (v4 + v2)) ∧ (((v4 + v2) : Int) ≤ 2147483647)) := by omega
theorem om_4fe18394fc28 {v0 : Nat} : ((0 + 1) : Nat) ≤ ((10 * v0) + 15) := by omega
theorem om_50156e82a243 {v1 v2 v3 v4 : Int} {v0 : Nat} (h0 : (((v0 : Nat) : Int) : Int) ≤ ((28 * v1) + 28)) (h1 : (v2 : Int) = (v1 + 1)) (h2 : (v3 : Int) = v2) (h3 : (v4 : Int) = v3) : (((v0 : Nat) : Int) : Int) ≤ ((28 * v4) + 1) := by omega
theorem om_5059a367e50e {v0 : Int} {v1 : Nat} (h0 : (0 : Int) < v0) (h1 : (((v1 : Nat) : Int) : Int) = v0) : ¬ ((v1 : Nat) = 0) := by omega
theorem om_50942c6e822d {v0 v1 v2 v3 : Int} (h0 : (0 : Int) ≤ v0) (h1 : (v1 : Int) = v0) (h2 : (v2 : Int) = v1) (h3 : (v3 : Int) ≤ (8050 - (6 * v2))) : (v3 : Int) ≤ 9999 := by omega
theorem om_5096ece6e03a {v0 : Int} (h0 : (v0 : Int) = 56) : (v0 : Int) = ((8 * ((8 : Nat) : Int)) - 8) := by omega
theorem om_50d654328658 {v0 : Int} (h0 : (v0 : Int) ≤ 6) (h1 : (6 : Int) < v0) : False := by omega
theorem om_50dfdfbb9dc6 {v1 : Int} {v0 : Nat} (h0 : (((v0 : Nat) : Int) : Int) = v1) : (0 : Int) ≤ v1 := by omega
theorem om_5113af4dba16 {v0 v1 v2 v3 : Int} (h0 : (0 : Int) ≤ v0) (h1 : (v0 : Int) ≤ 1) (h2 : (v1 : Int) = (24 * v0)) (h3 : (0 : Int) ≤ v2) (h4 : (v2 : Int) ≤ 24) (h5 : (v3 : Int) = (v1 + v2)) (h6 : (v2 : Int) ≠ 24) : ((((-2147483648) : Int) ≤ (24 * v3)) ∧ (((24 * v3) : Int) ≤ 2147483647)) := by omega
theorem om_511d11287381 {v0 v1 v2 v3 v4 v5 v6 : Int} (h0 : (v0 : Int) = (24 * v1)) (h1 : (v2 : Int) = (v0 + v3)) (h2 : (v4 : Int) = (8 * v2)) (h3 : (v5 : Int) = (v4 + v6)) : (v5 : Int) = ((8 * ((24 * v1) + v3)) + v6) := by omega
theorem om_5132599afa3b {v0 v1 v2 v3 v4 : Int} (h0 : (v0 : Int) ≤ 4000) (h1 : (0 : Int) ≤ v1) (h2 : ((v1 + v2) : Int) = v3) (h3 : (v3 : Int) < v0) (h4 : (9 : Int) ≤ v2) (h5 : (v4 : Int) = (v3 + 1)) : (((0 : Int) ≤ v4) ∧ ((v4 : Int) ≤ 4000)) := by omega
theorem om_5163de043acc {v1 v2 v3 v4 v5 v6 v7 : Int} {v0 : Nat} (h0 : (((v0 : Nat) : Int) : Int) = v1) (h1 : (v2 : Int) = (10000 * ((v0 : Nat) : Int))) (h2 : (v2 : Int) ≤ 10000) (h3 : (v3 : Int) = (24 * v1)) (h4 : (0 : Int) ≤ v4) (h5 : (v4 : Int) ≤ 24) (h6 : (v5 : Int) = (v3 + v4)) (h7 : (v4 : Int) ≠ 24) (h8 : (0 : Int) ≤ v6) (h9 : (v6 : Int) < 20) (h10 : (v7 : Int) = (20 * v5)) : ((((-2147483648) : Int) ≤ (v7 + v6)) ∧ (((v7 + v6) : Int) ≤ 2147483647)) := by omega
theorem om_5175a30f84aa {v0 v1 v2 v3 : Int} (h0 : (v0 : Int) < v1) (h1 : (v2 : Int) = v1) (h2 : (v2 : Int) ≤ v3) : (v0 : Int) < v3 := by omega
theorem om_517d2fcd5b60 {v0 v1 : Int} (h0 : (v0 : Int) = (-1)) (h1 : (v1 : Int) = v0) : (v1 : Int) < 0 := by omega
theorem om_51af92a0e09d {v0 : Int} (h0 : (0 : Int) ≤ v0) (h1 : (v0 : Int) ≤ 39) : ((((-1) : Int) ≤ v0) ∧ ((v0 : Int) ≤ 39)) := by omega
theorem om_5201386e6c04 {v0 : Int} (h0 : (v0 : Int) = 130) : (v0 : Int) = 130 := by omega
theorem om_521a8b7c885d {v0 v1 v2 v3 : Int} (h0 : (0 : Int) ≤ v0) (h1 : (v0 : Int) ≤ 9) (h2 : (v1 : Int) = (v0 + 1)) (h3 : (v2 : Int) = v1) (h4 : (v3 : Int) = v2) : ((((-2147483648) : Int) ≤ (v3 - 1)) ∧ (((v3 - 1) : Int) ≤ 2147483647)) := by omega
theorem om_5220ee48b31d {v0 v2 v3 v4 v5 : Int} {v1 : Nat} (h0 : (v0 : Int) = ((v1 : Nat) : Int)) (h1 : (v1 : Nat) ≤ 24) (h2 : (0 : Int) ≤ v2) (h3 : (v2 : Int) ≤ 1) (h4 : (v3 : Int) = v0) (h5 : (0 : Int) ≤ v4) (h6 : (v4 : Int) < v3) (h7 : (v5 : Int) = (24 * v2)) : ((((-2147483648) : Int) ≤ (v5 + v4)) ∧ (((v5 + v4) : Int) ≤ 2147483647)) := by omega
theorem om_522cd3f66845 {v1 v2 v3 v4 v5 : Int} {v0 v6 v7 : Nat} (h0 : (((v0 : Nat) : Int) : Int) = v1) (h1 : (v2 : Int) = v3) (h2 : (v4 : Int) = (24 * v1)) (h3 : (v5 : Int) = (v4 + v2)) (h4 : (((v6 : Nat) : Int) : Int) = ((24 * ((v0 : Nat) : Int)) + v3)) (h5 : (((v7 : Nat) : Int) : Int) = v5) : (v6 : Nat) ≤ v7 := by omega
theorem om_5241ad6bc921 {v0 : Int} (h0 : (2 : Int) ≤ v0) (h1 : (v0 : Int) ≠ 2) : (3 : Int) ≤ v0 := by omega
theorem om_5255b714ed60 {v1 v2 v3 : Int} {v0 : Nat} (h0 : (((v0 : Nat) : Int) : Int) ≤ (84 * v1)) (h1 : (v2 : Int) = v3) (h2 : (v3 : Int) ≤ (24 * (10 - v1))) (h3 : (0 : Int) < v2) : ((0 + v0) : Nat) ≤ 2000 := by omega
theorem om_528336e0aee1 {v0 v1 : Nat} : (((8 + (6 + 11)) + (((100 * v0) + (1000 * v1)) + 320)) : Nat) ≤ (((100 * v0) + (1000 * v1)) + 380) := by omega
theorem om_528fa8a13d6e {v0 v2 v3 v4 : Int} {v1 : Nat} (h0 : (0 : Int) ≤ v0) (h1 : (((v1 : Nat) : Int) : Int) = v2) (h2 : (v3 : Int) = (12 * v0)) (h3 : (v4 : Int) = (v3 + v2)) : (0 : Int) ≤ v4 := by omega
theorem om_52ef46a1518b {v0 v1 v2 v3 v4 : Int} (h0 : (v0 : Int) ≤ v1) (h1 : (v2 : Int) = v1) (h2 : (v2 : Int) ≤ v3) (h3 : (v4 : Int) = v3) : (v0 : Int) ≤ v4 := by omega
theorem om_533842177667 {v0 v1 v2 v3 : Int} (h0 : (0 : Int) ≤ v0) (h1 : (v1 : Int) = ((8 * ((24 * v2) + v3)) + v0)) (h2 : (0 : Int) ≤ v2) (h3 : (0 : Int) ≤ v3) : (0 : Int) ≤ v1 := by omega
theorem om_537998cc9c87 {v0 v1 v2 v3 v4 v5 : Int} (h0 : (1 : Int) ≤ v0) (h1 : (v0 : Int) ≤ 1) (h2 : (v1 : Int) = 0) (h3 : (v2 : Int) = v3) (h4 : (v4 : Int) = v5) : (((v0 : Int) = 1) ∧ ((((v4 : Int) = v5) ∧ ((((v1 : Int) = 0) ∧ ((v2 : Int) = v3)))))) := by omega
theorem om_53bb2050c72d {v0 v1 v2 : Int} (h0 : (v0 : Int) ≤ 6) (h1 : (v1 : Int) ≤ v0) (h2 : ((7 - v1) : Int) < v2) : (0 : Int) ≤ (v2 - 1) := by omega
theorem om_53d48c16da70 {v0 v1 : Nat} : (((((4 * v0) + (40 * v1)) + 12) + 1) : Nat) ≤ (((4 * v0) + (40 * v1)) + 14) := by omega
theorem om_53de461519bc {v0 v1 : Nat} : (((8 + (10 + 11)) + (((100 * v0) + (1000 * v1)) + 380)) : Nat) ≤ (((100 * v0) + (1000 * v1)) + 410) := by omega
theorem om_542ce362b23d {v0 v2 v3 v4 v6 v8 : Int} {v1 v5 v7 : Nat} (h0 : (v0 : Int) ≤ 999000) (h1 : (v1 : Nat) ≤ 24) (h2 : (v2 : Int) ≤ 8) (h3 : (v3 : Int) < v2) (h4 : (((v4 + (192 * ((v5 : Nat) : Int))) + 192) : Int) ≤ ((v0 + (24 * v3)) + v6)) (h5 : (((v7 : Nat) : Int) : Int) = v6) (h6 : (v7 : Nat) < v1) (h7 : (v8 : Int) = v4) : (v8 : Int) ≤ 999999 := by omega
theorem om_54310ff40500 {v1 v2 v4 : Int} {v0 v3 : Nat} (h0 : (((v0 : Nat) : Int) : Int) ≤ (28 * v1)) (h1 : (v2 : Int) = v1) (h2 : (v3 : Nat) = (v0 + 1)) (h3 : (v4 : Int) = v2) : (((v3 : Nat) : Int) : Int) ≤ ((28 * v4) + 25) := by omega
theorem om_54ab17f89714 {v0 : Int} (h0 : (v0 : Int) < 0) (h1 : (0 : Int) ≤ v0) : False := by omega
theorem om_54d8851a11a3 {v0 : Int} (h0 : (0 : Int) < v0) (h1 : (v0 : Int) < 16777216) : ((((-2147483648) : Int) ≤ (v0 - 1)) ∧ (((v0 - 1) : Int) ≤ 2147483647)) := by omega
theorem om_54ee45d20327 {v0 : Int} (h0 : (v0 : Int) = 137) : (v0 : Int) = 137 := by omega
theorem om_54f86daa8293 {v0 v1 : Int} (h0 : (0 : Int) ≤ v0) (h1 : (v0 : Int) ≠ 0) (h2 : (v1 : Int) = 0) : (v1 : Int) ≤ v0 := by omega
theorem om_550af7e7eacc {v0 v1 v2 v3 : Int} (h0 : (v0 : Int) ≤ v1) (h1 : (v1 : Int) = v2) (h2 : (v3 : Int) = v2) : (v0 : Int) ≤ v3 := by omega
theorem om_550cdc110816 {v0 : Int} (h0 : (0 : Int) ≤ v0) : ((-1) : Int) < v0 := by omega
theorem om_55143c0ac645 {v0 v1 v2 v3 v4 v5 : Int} (h0 : (((v0 - v1) - v2) : Int) ≤ (((v3 - v4) - v5) + 1)) : (((v0 - v1) - v2) : Int) ≤ (((v3 - v4) - v5) + 1) := by omega
theorem om_5520743cc628 {v0 : Int} (h0 : (v0 : Int) = 130) : (v0 : Int) ≠ 0 := by omega
theorem om_55730f2b1f23 {v0 v1 v2 : Int} (h0 : (v0 : Int) ≤ 20000) (h1 : (v1 : Int) = (v0 - 1)) (h2 : (v2 : Int) = (v1 - 1)) : (v2 : Int) ≤ 19999 := by omega
theorem om_55832778b6e0 {v0 v2 v3 v4 v5 v6 : Int} {v1 : Nat} (h0 : ((10 - v0) : Int) ≤ ((v1 : Nat) : Int)) (h1 : (v2 : Int) = (v0 + 1)) (h2 : (v3 : Int) = v2) (h3 : (v4 : Int) = v3) (h4 : (v5 : Int) = (v4 - 1)) (h5 : (v6 : Int) = v5) : ((10 - v6) : Int) ≤ ((v1 : Nat) : Int) := by omega
theorem om_55c67efb91e5 {v0 v1 : Int} (h0 : (v0 : Int) = (v1 + 1)) : (v0 : Int) = (v1 + 1) := by omega
theorem om_561babfe1225 {v0 v1 v2 : Nat} (h0 : (v0 : Nat) < v1) (h1 : (v2 : Nat) = v0) : ((0 + v2) : Nat) ≤ v1 := by omega
theorem om_56249b68a5fe {v0 v1 v2 : Int} (h0 : (0 : Int) ≤ v0) (h1 : (v1 : Int) ≤ 12) (h2 : (v0 : Int) < v1) (h3 : (v2 : Int) = (v0 + 1)) : (((0 : Int) ≤ v2) ∧ ((v2 : Int) ≤ 12)) := by omega
theorem om_56381600030a {v0 v1 v2 v3 v4 v5 v6 v8 v9 v10 v11 : Int} {v7 : Nat} (h0 : (v0 : Int) ≤ v1) (h1 : (v2 : Int) ≤ v0) (h2 : ((v3 - v0) : Int) ≤ (v4 - v1)) (h3 : ((v5 - v2) : Int) ≤ (v3 - v0)) (h4 : (v6 : Int) = (v5 - 1)) (h5 : (((v7 : Nat) : Int) : Int) = v6) (h6 : (v8 : Int) = v4) (h7 : (v9 : Int) = v3) (h8 : (v9 : Int) ≤ v10) (h9 : ((v10 - v9) : Int) ≤ (v11 - v8)) (h10 : (v11 : Int) ≤ 300) : (((0 : Int) ≤ v10) ∧ ((v10 : Int) ≤ 300)) := by omega
theorem om_56aaaabe0a9d {v0 v1 v2 : Int} (h0 : (v0 : Int) ≤ v1) (h1 : (v1 : Int) ≤ v2) : (v0 : Int) ≤ v2 := by omega
theorem om_56cb6021f87f {v1 v3 : Int} {v0 v2 : Nat} (h0 : (((v0 : Nat) : Int) : Int) ≤ (((28 * v1) + 24) - ((v2 : Nat) : Int))) (h1 : (v3 : Int) = v1) (h2 : (v3 : Int) ≤ 10) : (v0 : Nat) ≤ 394 := by omega
theorem om_56d61a127ecf {v0 : Int} (h0 : (v0 : Int) = 5) : (((1 : Int) ≤ v0) ∧ ((v0 : Int) ≤ 11)) := by omega
theorem om_56ff1e099a1d {v0 v1 : Int} (h0 : (0 : Int) ≤ v0) (h1 : (v1 : Int) ≤ 8) (h2 : (v0 : Int) < v1) : ((((-2147483648) : Int) ≤ (v0 + 1)) ∧ (((v0 + 1) : Int) ≤ 2147483647)) := by omega
theorem om_571223e88eb8 {v1 v2 : Int} {v0 v3 : Nat} (h0 : (((v0 : Nat) : Int) : Int) = (1 - v1)) (h1 : (v2 : Int) = (1 - v1)) (h2 : (((v3 : Nat) : Int) : Int) = v2) : (v0 : Nat) ≤ v3 := by omega
theorem om_572394531324 {v0 v1 : Int} (h0 : (0 : Int) ≤ v0) (h1 : (v0 : Int) ≤ 10000) (h2 : (0 : Int) ≤ v1) (h3 : (v1 : Int) ≤ 10000) : ((((-2147483648) : Int) ≤ (v1 + v0)) ∧ (((v1 + v0) : Int) ≤ 2147483647)) := by omega
theorem om_5772a9857759 {v0 : Nat} : (((8 + (3 + 11)) + 86) : Nat) ≤ ((300 * v0) + 460) := by omega
theorem om_5799d5b78762 {v0 : Int} (h0 : (v0 : Int) = 8) : ((((-2147483648) : Int) ≤ (v0 + 1)) ∧ (((v0 + 1) : Int) ≤ 2147483647)) := by omega
theorem om_57cd5b847e40 {v0 : Int} (h0 : (v0 : Int) = 0) : (((0 : Int) ≤ v0) ∧ ((v0 : Int) ≤ 2)) := by omega
theorem om_57ec44704b37 {v1 : Int} {v0 : Nat} (h0 : (((v0 : Nat) : Int) : Int) ≤ ((28 * v1) + 28)) (h1 : (v1 : Int) ≤ 10) : (v0 : Nat) ≤ 394 := by omega
theorem om_57ee875d9e1c {v0 : Int} {v1 : Nat} (h0 : (v0 : Int) ≤ 8) (h1 : ((8 - v0) : Int) ≤ ((v1 : Nat) : Int)) : ((0 + 1) : Nat) ≤ ((10 * v1) + 8) := by omega
theorem om_5806eb61fe36 {v0 v1 v3 v4 v5 : Int} {v2 : Nat} (h0 : ((v0 - v1) : Int) < ((v2 : Nat) : Int)) (h1 : (v0 : Int) = v3) (h2 : (v4 : Int) = (v1 + 1)) (h3 : (v5 : Int) = v3) : ((v5 - v4) : Int) < ((v2 : Nat) : Int) := by omega
theorem om_582758b7b1c9 {v0 v1 v2 : Int} (h0 : (0 : Int) ≤ v0) (h1 : (v0 : Int) ≤ 299) (h2 : (0 : Int) ≤ v1) (h3 : (v1 : Int) ≤ 7) (h4 : (v2 : Int) = (v0 * 8)) : ((((-2147483648) : Int) ≤ (v2 + v1)) ∧ (((v2 + v1) : Int) ≤ 2147483647)) := by omega
theorem om_582a5a29f9ff {v0 : Int} (h0 : (0 : Int) ≤ v0) (h1 : (v0 : Int) < 24) : (((0 : Int) ≤ v0) ∧ ((v0 : Int) ≤ 23)) := by omega
theorem om_5838be2d284d {v0 v1 v2 v3 v4 v5 v6 v7 v8 : Int} (h0 : (((v0 + v1) - v2) : Int) ≤ 999000) (h1 : (v3 : Int) = v2) (h2 : (v4 : Int) = v1) (h3 : (v5 : Int) = v0) (h4 : (((v6 + v7) - v8) : Int) ≤ ((v5 + v4) - v3)) : (((v6 + v7) - v8) : Int) ≤ 999000 := by omega
theorem om_583c652d5dd6 {v0 v1 : Nat} : ((((404 + (1422 - v0)) + v1) + 0) : Nat) ≤ ((404 + (1422 - v0)) + (v1 + 1)) := by omega
theorem om_586f3a3c45ef {v0 v1 v2 v3 v4 : Int} (h0 : (v0 : Int) = (v1 + 1)) (h1 : (v2 : Int) = v0) (h2 : (v2 : Int) ≤ v3) (h3 : (v4 : Int) = v3) : (v1 : Int) ≤ v4 := by omega
theorem om_5897453a0246 {v0 : Int} {v1 v2 v3 : Nat} (h0 : (v0 : Int) ≤ 12) (h1 : ((12 - v0) : Int) ≤ ((v1 : Nat) : Int)) : (((8 + (8 + 11)) + 25) : Nat) ≤ ((((100 * v2) + (1000 * v3)) + 560) + (60 * v1)) := by omega
theorem om_58a7a3048726 {v0 : Int} (h0 : (v0 : Int) ≤ 250000) (h1 : (0 : Int) ≤ v0) : ((((-2147483648) : Int) ≤ (v0 * 2)) ∧ (((v0 * 2) : Int) ≤ 2147483647)) := by omega
theorem om_58b2497b5a91 {v0 v2 : Int} {v1 : Nat} (h0 : (v0 : Int) = ((v1 : Nat) : Int)) (h1 : (v2 : Int) = (v0 * 2)) : (v2 : Int) = (2 * ((v1 : Nat) : Int)) := by omega
theorem om_58b6fa9c404f {v0 v1 v2 v3 v4 : Int} (h0 : (v0 : Int) = v1) (h1 : (v2 : Int) = (v0 + 1)) (h2 : (v2 : Int) ≤ v3) (h3 : (v4 : Int) = v3) : (v1 : Int) ≤ v4 := by omega
theorem om_58c2777555e7 {v0 v1 v2 : Int} (h0 : (v0 : Int) ≤ 250000) (h1 : (0 : Int) ≤ v1) (h2 : (v1 : Int) < v0) (h3 : (v2 : Int) = (v0 + 1)) : (((0 : Int) ≤ v2) ∧ ((v2 : Int) ≤ 262144)) := by omega
theorem om_58cca7287cc1 {v0 : Int} (h0 : (0 : Int) < v0) : (1 : Int) ≤ v0 := by omega
theorem om_590e33a4cd4f {v0 v1 v2 : Int} (h0 : (v0 : Int) = (v1 + 1)) (h1 : (v2 : Int) = v0) : (v1 : Int) ≤ v2 := by omega
theorem om_5922346f4861 {v0 : Int} {v1 : Nat} (h0 : (v0 : Int) < ((v1 : Nat) : Int)) : ((v0 - 1) : Int) < ((v1 : Nat) : Int) := by omega
theorem om_5928716c164b {v0 v1 v2 v3 v4 v5 v6 v7 : Int} (h0 : (v0 : Int) = v1) (h1 : (v2 : Int) = v3) (h2 : (v4 : Int) = (v5 + 1)) (h3 : (v6 : Int) = v7) (h4 : ((v5 - v2) : Int) ≤ (2 * (v7 - v0))) : ((v4 - v3) : Int) ≤ ((2 * (v6 - v1)) + 1) := by omega
theorem om_593f1437d28d {v0 v1 v2 v3 : Int} (h0 : (v0 : Int) ≤ v1) (h1 : (v2 : Int) = v1) (h2 : (v3 : Int) = (v2 + 1)) : (v0 : Int) ≤ v3 := by omega
theorem om_5971fd7e692b {v0 v1 v3 v4 : Int} {v2 v5 : Nat} (h0 : (((v0 - v1) + ((v2 : Nat) : Int)) : Int) ≤ 998000) (h1 : (((v3 - v4) + ((v5 : Nat) : Int)) : Int) ≤ ((v0 - v1) + ((v2 : Nat) : Int))) : (((v3 - v4) + ((v5 : Nat) : Int)) : Int) ≤ 998000 := by omega
theorem om_5975e95c9ba3 {v0 : Int} {v1 : Nat} (h0 : (v0 : Int) = ((v1 : Nat) : Int)) (h1 : (8 : Int) ≤ v0) : (8 : Nat) ≤ v1 := by omega
theorem om_597ccb290fd9 {v0 : Int} (h0 : (v0 : Int) = 123) : (1 : Int) ≤ v0 := by omega
theorem om_5989b27434c7 {v0 v1 v2 v3 v4 v5 v6 : Int} (h0 : (0 : Int) ≤ v0) (h1 : (0 : Int) ≤ v1) (h2 : (0 : Int) ≤ v2) (h3 : (v3 : Int) = (24 * v2)) (h4 : (v4 : Int) = (v3 + v1)) (h5 : (v5 : Int) = (8 * v4)) (h6 : (v6 : Int) = (v5 + v0)) : (0 : Int) ≤ v6 := by omega
theorem om_599a010fec53 {v0 : Int} (h0 : (v0 : Int) = 138) : (v0 : Int) ≠ 0 := by omega
theorem om_59b81ba22281 {v0 v1 v2 v3 : Int} (h0 : (v0 : Int) ≤ (v1 + v2)) (h1 : (v3 : Int) = (v2 + 1)) : (v0 : Int) ≤ (v1 + v3) := by omega
theorem om_59cf3ec53513 {v0 v1 : Int} (h0 : (0 : Int) ≤ v0) (h1 : (v0 : Int) < 300) (h2 : (v1 : Int) = (v0 + 1)) : (((0 : Int) ≤ v1) ∧ ((v1 : Int) ≤ 300)) := by omega
theorem om_59f1c70b47dd {v0 : Int} (h0 : (v0 : Int) ≤ 300) (h1 : (v0 : Int) ≠ 300) : ¬ ((300 : Int) ≤ v0) := by omega
theorem om_5a4487e59699 {v0 : Int} {v1 v2 : Nat} (h0 : (v0 : Int) < 12) (h1 : (((v1 : Nat) : Int) : Int) = v0) : (((12 * v2) + v1) : Nat) < ((12 * v2) + 12) := by omega
theorem om_5a470900123d {v0 : Nat} (h0 : (v0 : Nat) ≤ 300000) : ((v0 * 4) : Nat) ≤ 536870912 := by omega
theorem om_5a91d6933965 {v0 : Int} (h0 : (v0 : Int) < 5) : (v0 : Int) ≤ 4 := by omega
theorem om_5b2fea1f438e {v0 v1 : Int} (h0 : (v0 : Int) = (v1 + 1)) (h1 : (0 : Int) ≤ v1) : (0 : Int) ≤ v0 := by omega
theorem om_5b806241d648 {v0 v1 v2 v3 v4 v5 v6 v7 v8 : Int} (h0 : (((v0 + v1) - v2) : Int) ≤ ((v3 + v4) - v5)) (h1 : (v6 : Int) = v0) (h2 : (v7 : Int) = v2) (h3 : (v8 : Int) = v1) : (((v6 + v8) - v7) : Int) ≤ ((v3 + v4) - v5) := by omega
theorem om_5b8d680fa6e8 {v0 : Int} (h0 : (0 : Int) ≤ v0) (h1 : (v0 : Int) ≤ 300) : ((((-2147483648) : Int) ≤ (v0 + 1)) ∧ (((v0 + 1) : Int) ≤ 2147483647)) := by omega
theorem om_5bc145c9901b {v0 v1 : Int} (h0 : (v0 : Int) = 135) (h1 : (v1 : Int) = v0) : (v1 : Int) ≠ 0 := by omega
theorem om_5bd73bff3568 {v0 v1 v2 v3 v4 : Int} (h0 : (v0 : Int) ≤ 4000) (h1 : (0 : Int) ≤ v1) (h2 : (0 : Int) ≤ v2) (h3 : ((v1 + v2) : Int) = v3) (h4 : (v3 : Int) < v0) (h5 : (v4 : Int) = (v3 + 1)) : (((0 : Int) ≤ v4) ∧ ((v4 : Int) ≤ 4000)) := by omega
theorem om_5bde2511380b {v0 : Int} (h0 : (0 : Int) ≤ v0) (h1 : (v0 : Int) < 28) : ((((-2147483648) : Int) ≤ (v0 + 1)) ∧ (((v0 + 1) : Int) ≤ 2147483647)) := by omega
theorem om_5c2541dbcd85 {v0 v1 v2 : Int} (h0 : (0 : Int) ≤ v0) (h1 : (v1 : Int) ≤ 24) (h2 : (v0 : Int) < v1) (h3 : (v2 : Int) = (v0 + 1)) : (((0 : Int) ≤ v2) ∧ ((v2 : Int) ≤ 24)) := by omega
theorem om_5c2f98f06f05 {v0 v1 v2 v3 : Int} (h0 : (v0 : Int) ≤ 4000) (h1 : (0 : Int) ≤ v1) (h2 : ((v1 + v2) : Int) = v3) (h3 : (v3 : Int) < v0) (h4 : (12 : Int) ≤ v2) : ((((-2147483648) : Int) ≤ (v3 + 1)) ∧ (((v3 + 1) : Int) ≤ 2147483647)) := by omega
theorem om_5c55627118e7 {v0 v1 v3 : Int} {v2 : Nat} (h0 : (v0 : Int) ≤ 12) (h1 : (v1 : Int) < v0) (h2 : (((v2 : Nat) : Int) : Int) = v1) (h3 : (v3 : Int) = (v1 + 1)) : (((0 : Int) ≤ v3) ∧ ((v3 : Int) ≤ 12)) := by omega
theorem om_5c6f91e56a35 {v0 : Int} {v1 v2 v3 : Nat} (h0 : (v0 : Int) = ((((8 * ((24 * v1) + v2)) + v3) : Nat) : Int)) : (v0 : Int) = ((((8 * ((24 * v1) + v2)) + v3) : Nat) : Int) := by omega
theorem om_5cb1365e39a9 {v0 : Nat} : ((((10 * v0) + 9) + 1) : Nat) ≤ ((10 * v0) + 10) := by omega
theorem om_5ce084993e0e {v0 v1 v2 v3 v4 v5 v6 v7 v8 v9 v10 v11 v12 v13 v14 : Int} (h0 : (v0 : Int) = v1) (h1 : (v2 : Int) = v3) (h2 : (v4 : Int) = v5) (h3 : (((v6 - v7) - v8) : Int) ≤ ((v2 - v4) - v0)) (h4 : (v9 : Int) = v8) (h5 : (v10 : Int) = v6) (h6 : (v11 : Int) = v7) (h7 : (((v12 - v13) - v14) : Int) ≤ ((v10 - v11) - v9)) : (((v12 - v13) - v14) : Int) ≤ ((v3 - v5) - v1) := by omega
theorem om_5d2dd242fd3e {v0 : Int} (h0 : ((-1) : Int) ≤ v0) (h1 : (v0 : Int) ≤ 23) (h2 : (v0 : Int) ≠ (-1)) : ((((-1) : Int) ≤ v0) ∧ ((v0 : Int) ≤ 24)) := by omega
theorem om_5d31a6e39fc7 {v0 v1 v2 v3 v4 v5 v6 v7 v8 v9 : Int} (h0 : (v0 : Int) ≤ v1) (h1 : (v2 : Int) = v1) (h2 : (v2 : Int) ≤ v3) (h3 : (((v3 + v4) - v5) : Int) ≤ ((v0 + v6) - v7)) (h4 : (v8 : Int) = v5) (h5 : (v9 : Int) = v4) : ((v9 - v6) : Int) ≤ (v8 - v7) := by omega
theorem om_5d4bd373b16a {v0 v1 v2 : Int} (h0 : (0 : Int) ≤ v0) (h1 : (v0 : Int) ≤ 24) (h2 : (v1 : Int) ≤ 24) (h3 : (0 : Int) ≤ v2) (h4 : (v2 : Int) < v1) : ((((-2147483648) : Int) ≤ (v0 + v2)) ∧ (((v0 + v2) : Int) ≤ 2147483647)) := by omega
theorem om_5d5a707c7800 {v0 : Int} (h0 : (v0 : Int) = 0) : (v0 : Int) ≤ 6 := by omega
theorem om_5d70bb1a5d56 {v0 v1 v2 v3 v4 v5 : Int} (h0 : (v0 : Int) = v1) (h1 : (v0 : Int) ≤ v2) (h2 : (v2 : Int) ≤ v3) (h3 : (v4 : Int) = (v3 + 1)) (h4 : (v5 : Int) = v4) : (v1 : Int) ≤ v5 := by omega
theorem om_5d7de24a65e5 {v0 v1 v2 : Int} : (((v0 + v1) - v2) : Int) ≤ ((v0 + v1) - v2) := by omega
theorem om_5d996cd43f79 {v0 v1 : Int} (h0 : (0 : Int) ≤ v0) (h1 : (v0 : Int) ≤ 3000) (h2 : (v0 : Int) ≠ 3000) (h3 : (v1 : Int) = (v0 + 1)) : (((0 : Int) ≤ v1) ∧ ((v1 : Int) ≤ 3000)) := by omega
theorem om_5de5485ce193 {v0 v1 : Int} (h0 : (0 : Int) ≤ v0) (h1 : (v0 : Int) ≤ 6) (h2 : (v0 : Int) ≤ v1) (h3 : (v1 : Int) ≤ v0) : (((0 : Int) ≤ v1) ∧ ((v1 : Int) ≤ 6)) := by omega
theorem om_5e02d6e3ffb0 {v0 v1 v2 : Nat} (h0 : (((v0 : Nat) : Int) : Int) ≤ ((v1 : Nat) : Int)) (h1 : ((((v2 : Nat) : Int) + 1) : Int) ≤ ((v0 : Nat) : Int)) : (((8 + (6 + 11)) + 69) : Nat) ≤ ((300 * v1) + 260) := by omega
theorem om_5e116a307a42 {v0 v1 : Int} {v2 v3 : Nat} (h0 : (0 : Int) ≤ v0) (h1 : (v1 : Int) ≤ 23) (h2 : (v0 : Int) = ((v2 : Nat) : Int)) (h3 : (v1 : Int) = ((v3 : Nat) : Int)) (h4 : (v2 : Nat) ≤ v3) : ((((-2147483648) : Int) ≤ (v1 - v0)) ∧ (((v1 - v0) : Int) ≤ 2147483647)) := by omega
theorem om_5e297478323c {v0 : Int} (h0 : (v0 : Int) = 7) (h1 : (v0 : Int) = 13) : False := by omega
theorem om_5e4101f2ca8e {v0 v1 : Int} (h0 : (0 : Int) ≤ v0) (h1 : (v0 : Int) ≤ 1) (h2 : (v0 : Int) = v1) : ((((-2147483648) : Int) ≤ (24 * v1)) ∧ (((24 * v1) : Int) ≤ 2147483647)) := by omega
theorem om_5e710608e66b {v0 v1 v2 : Int} (h0 : (0 : Int) ≤ v0) (h1 : (v1 : Int) = (v2 - v0)) (h2 : (9 : Int) < v1) : (0 : Int) ≤ v2 := by omega
theorem om_5e8318fc94f7 {v0 : Int} (h0 : (1 : Int) ≤ v0) (h1 : (v0 : Int) ≤ 2) : (((0 : Int) ≤ v0) ∧ ((v0 : Int) ≤ 2)) := by omega
theorem om_5e83b1f116bb {v0 v1 : Int} (h0 : (v0 : Int) = v1) (h1 : (0 : Int) ≤ v1) (h2 : (v1 : Int) = 0) : (v0 : Int) = 0 := by omega
theorem om_5e93b663c12e {v0 v2 : Int} {v1 : Nat} (h0 : ((8200 - v0) : Int) < ((v1 : Nat) : Int)) (h1 : (v2 : Int) = (v0 + 1)) : ((8200 - v2) : Int) < ((v1 : Nat) : Int) := by omega
theorem om_5ea63ae345c9 {v0 : Int} (h0 : (0 : Int) ≤ v0) (h1 : (v0 : Int) < 8) : ((((-2147483648) : Int) ≤ (v0 + 1)) ∧ (((v0 + 1) : Int) ≤ 2147483647)) := by omega
theorem om_5ea855d61ca3 {v0 v1 : Int} {v2 : Nat} (h0 : (0 : Int) ≤ v0) (h1 : (v1 : Int) ≤ ((v2 : Nat) : Int)) (h2 : (v2 : Nat) = 24) (h3 : (v0 : Int) < v1) : (((0 : Int) ≤ v0) ∧ ((v0 : Int) ≤ 23)) := by omega
theorem om_5ec95c5379fb {v0 : Int} {v1 : Nat} (h0 : (v0 : Int) ≤ 8) (h1 : ((8 - v0) : Int) ≤ ((v1 : Nat) : Int)) : (((8 + (2 + 11)) + 0) : Nat) ≤ ((300 * v1) + 180) := by omega
theorem om_5ed16a07bd2d {v0 v1 : Int} (h0 : (0 : Int) ≤ v0) (h1 : (v1 : Int) = (v0 + 1)) : (0 : Int) ≤ v1 := by omega
theorem om_5ed682c70fcb {v0 : Int} (h0 : (v0 : Int) = 12) (h1 : (v0 : Int) = 13) : False := by omega
theorem om_5ef01dcf7d58 {v0 : Int} (h0 : (0 : Int) ≤ v0) (h1 : (v0 : Int) ≤ 0) : (((0 : Int) ≤ v0) ∧ ((v0 : Int) ≤ 0)) := by omega
theorem om_5f3154baf57f {v0 v1 : Int} {v2 : Nat} (h0 : (0 : Int) ≤ v0) (h1 : (v1 : Int) ≤ ((v2 : Nat) : Int)) (h2 : (v2 : Nat) = 20) (h3 : (v0 : Int) < v1) : (((0 : Int) ≤ v0) ∧ ((v0 : Int) ≤ 19)) := by omega
theorem om_5f68dd7d7033 {v0 v1 v2 v3 v4 v5 v6 v7 v8 : Int} (h0 : (((v0 - v1) - v2) : Int) ≤ ((v3 - v4) - v5)) (h1 : (v6 : Int) = v2) (h2 : (v7 : Int) = v0) (h3 : (v8 : Int) = v1) : (((v7 - v8) - v6) : Int) ≤ ((v3 - v4) - v5) := by omega
theorem om_5f91923d8543 {v0 v1 v2 v3 v4 v5 v6 v7 v8 v9 v10 v11 v12 v13 v14 v15 v16 : Int} (h0 : (v0 : Int) = v1) (h1 : (v2 : Int) = v3) (h2 : (v4 : Int) = v5) (h3 : (((v6 + v7) - v8) : Int) ≤ ((v4 + v2) - v0)) (h4 : (((v9 + v10) - v11) : Int) ≤ ((v6 + v7) - v8)) (h5 : (v12 : Int) = (v11 + 1)) (h6 : (v13 : Int) = (v10 + 1)) (h7 : (v14 : Int) = v12) (h8 : (v15 : Int) = v9) (h9 : (v16 : Int) = v13) : (((v15 + v16) - v14) : Int) ≤ ((v5 + v3) - v1) := by omega
theorem om_5faa14fe01c3 {v0 v1 v2 v3 v4 v5 v6 : Int} (h0 : (v0 : Int) = v1) (h1 : (v2 : Int) = v3) (h2 : (v4 : Int) = v5) (h3 : (v3 : Int) = (v6 + 1)) : (((v4 - v2) - v0) : Int) ≤ ((v5 - v6) - v1) := by omega
theorem om_5fbdce89d6c0 {v0 v1 v2 v3 : Int} (h0 : (v0 : Int) = (v1 - v2)) (h1 : (9 : Int) ≤ v0) (h2 : (v3 : Int) = (v1 + 1)) : (v2 : Int) ≤ v3 := by omega
theorem om_5fd6377d842b {v0 : Int} {v1 v2 : Nat} (h0 : ((300 - v0) : Int) ≤ ((v1 : Nat) : Int)) (h1 : (v0 : Int) ≤ 300) : (((8 + (6 + 11)) + 25) : Nat) ≤ (((100 * v1) + (1000 * v2)) + 500) := by omega
theorem om_6014ad50b290 {v0 v1 : Int} (h0 : (v0 : Int) = 0) : (v1 : Int) ≤ (v1 + v0) := by omega
theorem om_6036b630f734 {v0 v1 : Int} (h0 : (0 : Int) ≤ v0) (h1 : (v0 : Int) < 1000000) (h2 : (v1 : Int) = (v0 + 1)) : (((0 : Int) ≤ v1) ∧ ((v1 : Int) ≤ 1000000)) := by omega
theorem om_60388b098aab {v0 v1 : Int} (h0 : (v0 : Int) ≤ 4000) (h1 : (0 : Int) ≤ v1) (h2 : (v1 : Int) < v0) : ((((-2147483648) : Int) ≤ (v1 + 1)) ∧ (((v1 + 1) : Int) ≤ 2147483647)) := by omega
theorem om_607e1c2a08b1 {v0 : Int} (h0 : (0 : Int) ≤ v0) (h1 : (v0 : Int) < 100) : ((((-2147483648) : Int) ≤ (v0 + 1)) ∧ (((v0 + 1) : Int) ≤ 2147483647)) := by omega
theorem om_6099d9e4298c {v0 v2 : Int} {v1 : Nat} (h0 : (v0 : Int) = 0) (h1 : (v1 : Nat) = 0) (h2 : (v2 : Int) = v0) : (((v1 : Nat) : Int) : Int) ≤ ((28 * v2) + 28) := by omega
theorem om_60ac3ad042ce {v0 : Int} {v1 v2 : Nat} (h0 : ((10 - v0) : Int) ≤ ((v1 : Nat) : Int)) (h1 : (v0 : Int) ≤ 10) (h2 : (v0 : Int) ≠ 10) : ((0 + 1) : Nat) ≤ (((4 * v2) + (40 * v1)) + 8) := by omega
theorem om_60beb380f0c2 {v0 : Nat} (h0 : (v0 : Nat) < 12) : ((((9762 + (5 * v0)) + 5) + 0) : Nat) ≤ 9822 := by omega
theorem om_610a4af05d44 {v0 : Int} (h0 : (0 : Int) < v0) : (0 : Int) ≤ v0 := by omega
theorem om_6171dfc018bd {v0 v2 v3 v4 : Int} {v1 : Nat} (h0 : (((v0 + (400 * ((v1 : Nat) : Int))) + (30 * (13 - v2))) : Int) ≤ 19000) (h1 : (v3 : Int) = (v2 + 1)) (h2 : (v4 : Int) = v0) : (((v4 + (400 * ((v1 : Nat) : Int))) + (30 * (14 - v3))) : Int) ≤ 19000 := by omega
theorem om_61c21d90efd5 {v0 v1 v2 v3 v4 v5 : Int} (h0 : (v0 : Int) ≤ v1) (h1 : (v2 : Int) = v1) (h2 : (v3 : Int) = v0) (h3 : (v2 : Int) ≤ v4) (h4 : (v5 : Int) = v3) : (v5 : Int) ≤ v4 := by omega
theorem om_61d6a610b6fa {v0 v1 v2 v3 v4 : Int} {v5 : Nat} (h0 : (v0 : Int) ≤ 4000) (h1 : (v1 : Int) ≤ v2) (h2 : (v2 : Int) = v0) (h3 : (v3 : Int) = (v1 - v4)) (h4 : (12 : Int) < v3) (h5 : (((v5 : Nat) : Int) : Int) = v4) : (((0 : Int) ≤ v1) ∧ ((v1 : Int) ≤ 4000)) := by omega
theorem om_61f5b7997f9d {v0 : Int} (h0 : (v0 : Int) ≤ 299) (h1 : (0 : Int) ≤ v0) : ((((-1) : Int) ≤ v0) ∧ ((v0 : Int) ≤ 299)) := by omega
theorem om_627ead948902 {v0 : Int} (h0 : (v0 : Int) = 44) : (1 : Int) ≤ v0 := by omega
theorem om_62bd97069832 {v1 v2 v3 : Int} {v0 : Nat} (h0 : (v0 : Nat) ≤ 4000) (h1 : (v1 : Int) < ((v0 : Nat) : Int)) (h2 : (v2 : Int) ≤ (2 * v1)) (h3 : (v3 : Int) = v2) : (v3 : Int) ≤ 8120 := by omega
theorem om_62cd0ceff94e {v0 v1 v2 : Int} (h0 : (v0 : Int) ≤ 1) (h1 : (0 : Int) ≤ v1) (h2 : (v1 : Int) < v0) (h3 : (v2 : Int) = (v1 + 1)) : (((0 : Int) ≤ v2) ∧ ((v2 : Int) ≤ 24)) := by omega
theorem om_62d91d472396 {v0 v1 v3 v4 v6 v7 : Int} {v2 v5 v8 : Nat} (h0 : (((v0 - v1) + ((v2 : Nat) : Int)) : Int) ≤ ((v3 - v4) + ((v5 : Nat) : Int))) (h1 : (((v6 - v7) + ((v8 : Nat) : Int)) : Int) ≤ ((v0 - v1) + ((v2 : Nat) : Int))) : (((v6 - v7) + ((v8 : Nat) : Int)) : Int) ≤ ((v3 - v4) + ((v5 : Nat) : Int)) := by omega
theorem om_62e1a727c0e4 {v0 v2 : Int} {v1 : Nat} (h0 : ((10 - v0) : Int) ≤ ((v1 : Nat) : Int)) (h1 : (v2 : Int) = v0) : ((10 - v2) : Int) ≤ ((v1 : Nat) : Int) := by omega
theorem om_630bd6ee60c3 {v0 : Int} (h0 : (0 : Int) ≤ v0) (h1 : (v0 : Int) ≤ 1) : ((((-2147483648) : Int) ≤ (12 * v0)) ∧ (((12 * v0) : Int) ≤ 2147483647)) := by omega
theorem om_633dec4f9454 {v0 v1 v2 v3 v4 v5 v6 v7 v8 v9 v10 v11 v12 : Int} (h0 : (v0 : Int) ≤ 3000) (h1 : (v1 : Int) = 0) (h2 : (v2 : Int) = v3) (h3 : (v4 : Int) = v5) (h4 : (v6 : Int) = v1) (h5 : (((v7 - v8) - v9) : Int) ≤ ((v4 - v6) - v2)) (h6 : (v10 : Int) = v9) (h7 : (v11 : Int) = v7) (h8 : (v12 : Int) = v8) : (((v11 - v12) - v10) : Int) ≤ (((v5 - v0) - v3) + 3000) := by omega
theorem om_63465e109454 {v0 v1 : Int} (h0 : (v0 : Int) ≤ 6) (h1 : (v0 : Int) ≠ 6) (h2 : ((7 - v0) : Int) < v1) : (0 : Int) ≤ (v1 - 1) := by omega
theorem om_63516cd27ca0 {v0 : Int} (h0 : (v0 : Int) ≤ 250000) (h1 : (0 : Int) ≤ v0) : ((((-2147483648) : Int) ≤ (v0 + 1)) ∧ (((v0 + 1) : Int) ≤ 2147483647)) := by omega
theorem om_63622a147cef {v0 : Int} (h0 : (v0 : Int) = 14) (h1 : (v0 : Int) = 0) : False := by omega
theorem om_636409b958c5 {v0 v1 : Int} (h0 : (v0 : Int) ≤ 12) (h1 : (v1 : Int) ≤ (v0 - 1)) (h2 : (0 : Int) ≤ v1) : (((0 : Int) ≤ v1) ∧ ((v1 : Int) ≤ 24)) := by omega
theorem om_636d61520df5 {v0 v2 v5 : Int} {v1 v3 v4 : Nat} (h0 : ((v0 + ((v1 : Nat) : Int)) : Int) ≤ 24) (h1 : (v2 : Int) = (v0 + 1)) (h2 : ((((v3 : Nat) : Int) + 1) : Int) ≤ ((v1 : Nat) : Int)) (h3 : (v4 : Nat) = v3) (h4 : (v5 : Int) = v2) : ((v5 + ((v4 : Nat) : Int)) : Int) ≤ 24 := by omega
theorem om_6373c6050202 {v0 v1 v2 v3 v4 v5 v6 : Int} (h0 : (v0 : Int) = (v1 + 1)) (h1 : (v2 : Int) = v0) (h2 : (v3 : Int) = v2) (h3 : (v4 : Int) = (v3 - 1)) (h4 : (v5 : Int) = v4) (h5 : (v6 : Int) = v5) : (v6 : Int) = v1 := by omega
theorem om_6375303fbfa7 {v0 v1 : Int} (h0 : (0 : Int) ≤ v0) (h1 : (v0 : Int) ≤ 300) (h2 : (v0 : Int) ≠ 300) (h3 : (v1 : Int) = (v0 + 1)) : (((0 : Int) ≤ v1) ∧ ((v1 : Int) ≤ 300)) := by omega
theorem om_639467a33f9a {v0 : Int} {v1 v2 : Nat} (h0 : (v0 : Int) < 8) (h1 : (((v1 : Nat) : Int) : Int) = v0) : (((8 * v2) + v1) : Nat) < ((8 * v2) + 8) := by omega
theorem om_639da7453e33 {v1 : Int} {v0 : Nat} (h0 : (((v0 : Nat) : Int) : Int) = v1) : (((v0 : Nat) : Int) : Int) = v1 := by omega
theorem om_63a9fe1a0d9b {v0 : Int} (h0 : (v0 : Int) = 1) : (((1 : Int) ≤ v0) ∧ ((v0 : Int) ≤ 2)) := by omega
theorem om_63bb7a2e1316 {v0 : Nat} : (((8 + (4 + 11)) + 0) : Nat) ≤ ((40 * v0) + 40600) := by omega
theorem om_63c59c44fdfe {v0 v1 v2 v3 : Int} (h0 : (v0 : Int) = v1) (h1 : (v2 : Int) = (v0 + 1)) (h2 : (v3 : Int) = v2) : (v3 : Int) = (v1 + 1) := by omega
theorem om_63ce7e8c4c16 {v0 : Int} (h0 : (0 : Int) ≤ v0) (h1 : (v0 : Int) ≤ 24) : ((((-1) : Int) ≤ v0) ∧ ((v0 : Int) ≤ 24)) := by omega
theorem om_63f1e715d09f {v0 v1 v2 v3 v4 v5 v6 v7 v8 v9 : Int} (h0 : (v0 : Int) = v1) (h1 : (v2 : Int) = v3) (h2 : ((v4 - v2) : Int) ≤ (v5 - v0)) (h3 : (v5 : Int) ≤ v6) (h4 : (v7 : Int) = v4) (h5 : (v8 : Int) = v6) (h6 : (v9 : Int) = v7) : ((v9 - v3) : Int) ≤ (v8 - v1) := by omega
theorem om_63fb5aa2e3ba {v0 v1 v2 v3 v4 v5 : Int} (h0 : (0 : Int) ≤ v0) (h1 : (v0 : Int) ≤ 7) (h2 : (0 : Int) ≤ v1) (h3 : (v1 : Int) ≤ 23) (h4 : (0 : Int) ≤ v2) (h5 : (v2 : Int) ≤ 1) (h6 : (v3 : Int) = (24 * v2)) (h7 : (v4 : Int) = (v3 + v1)) (h8 : (v5 : Int) = (8 * v4)) : ((((-2147483648) : Int) ≤ (v5 + v0)) ∧ (((v5 + v0) : Int) ≤ 2147483647)) := by omega
theorem om_640fee20b39f {v0 v2 v3 : Int} {v1 : Nat} (h0 : (v0 : Int) ≤ 23) (h1 : (v0 : Int) = ((v1 : Nat) : Int)) (h2 : (0 : Int) ≤ v2) (h3 : (v2 : Int) ≤ 1) (h4 : (v3 : Int) = (24 * v2)) : ((((-2147483648) : Int) ≤ (v3 + v0)) ∧ (((v3 + v0) : Int) ≤ 2147483647)) := by omega
theorem om_641b3f05f166 {v0 : Int} (h0 : (0 : Int) ≤ v0) (h1 : (v0 : Int) ≤ 0) : (((0 : Int) ≤ v0) ∧ ((v0 : Int) ≤ 1)) := by omega
theorem om_6460ebfc0e3d {v1 v2 v3 v4 : Int} {v0 : Nat} (h0 : (((v0 : Nat) : Int) : Int) = v1) (h1 : (0 : Int) ≤ v2) (h2 : (v3 : Int) = (v1 * 24)) (h3 : (v4 : Int) = (v3 + v2)) : (0 : Int) ≤ v4 := by omega
theorem om_64fe641f814d {v0 : Int} (h0 : (0 : Int) ≤ v0) (h1 : (v0 : Int) ≤ 16777215) (h2 : (v0 : Int) ≠ 0) : (((1 : Int) ≤ v0) ∧ ((v0 : Int) ≤ 16777215)) := by omega
theorem om_6510533e50dd {v0 : Int} (h0 : (v0 : Int) ≠ 2) (h1 : (v0 : Int) = 11) (h2 : (v0 : Int) = 2) : False := by omega
theorem om_651975ec1dec {v0 v1 v2 v3 v4 v5 v6 : Int} (h0 : (0 : Int) ≤ v0) (h1 : (0 : Int) ≤ v1) (h2 : (0 : Int) ≤ v2) (h3 : (v3 : Int) = (8 * v0)) (h4 : (v4 : Int) = (v3 + v1)) (h5 : (v5 : Int) = (24 * v4)) (h6 : (v6 : Int) = (v5 + v2)) : (0 : Int) ≤ v6 := by omega
theorem om_65732a9e84ef {v0 v1 v2 v3 : Int} (h0 : (v0 : Int) ≤ v1) (h1 : ((v2 - v0) : Int) ≤ (v3 - v1)) (h2 : (v3 : Int) ≤ 300) (h3 : (0 : Int) ≤ v2) : (((0 : Int) ≤ v2) ∧ ((v2 : Int) ≤ 300)) := by omega
theorem om_6575912fbdd9 {v0 v1 : Int} (h0 : (0 : Int) ≤ v0) (h1 : (v0 : Int) ≤ 6) (h2 : (v0 : Int) ≠ 6) (h3 : (v1 : Int) = (v0 + 1)) : (((0 : Int) ≤ v1) ∧ ((v1 : Int) ≤ 6)) := by omega
theorem om_65824dfedb71 {v0 v1 v2 v3 v4 v5 v6 v7 v8 v9 v10 v11 v12 v13 : Int} (h0 : (v0 : Int) = v1) (h1 : (v2 : Int) = v3) (h2 : (v4 : Int) = v5) (h3 : (((v6 + v7) - v8) : Int) ≤ ((v4 + v2) - v0)) (h4 : (v9 : Int) = (v8 + 1)) (h5 : (v10 : Int) = (v7 + 1)) (h6 : (v11 : Int) = v9) (h7 : (v12 : Int) = v6) (h8 : (v13 : Int) = v10) : (((v12 + v13) - v11) : Int) ≤ ((v5 + v3) - v1) := by omega
theorem om_65a6d0bb414d {v0 v1 v2 : Int} (h0 : (0 : Int) ≤ v0) (h1 : (v1 : Int) ≤ 4000) (h2 : (v0 : Int) < v1) (h3 : (v2 : Int) = (v0 + 1)) : (((0 : Int) ≤ v2) ∧ ((v2 : Int) ≤ 4000)) := by omega
theorem om_65a772b3cf36 {v0 v1 : Nat} : (((8 + (6 + 11)) + (((100 * v0) + (1000 * v1)) + 460)) : Nat) ≤ (((100 * v0) + (1000 * v1)) + 500) := by omega
theorem om_65d898249a5b {v0 v1 : Int} (h0 : (v0 : Int) ≤ 6) (h1 : (0 : Int) ≤ v1) (h2 : (v1 : Int) < v0) : ((((-2147483648) : Int) ≤ (v1 + 1)) ∧ (((v1 + 1) : Int) ≤ 2147483647)) := by omega
theorem om_65e123692c3f {v0 v1 v2 v3 : Int} (h0 : (0 : Int) ≤ v0) (h1 : (v0 : Int) ≤ 7) (h2 : (v1 : Int) = ((8 * ((24 * v2) + v3)) + v0)) (h3 : (0 : Int) ≤ v2) (h4 : (v2 : Int) ≤ 1) (h5 : (0 : Int) ≤ v3) (h6 : (v3 : Int) ≤ 23) : (((0 : Int) ≤ v1) ∧ ((v1 : Int) ≤ 383)) := by omega
theorem om_662a1892167c {v0 v1 v2 v3 v4 v5 : Int} (h0 : ((v0 + v1) : Int) = v2) (h1 : (v3 : Int) = (v1 + 1)) (h2 : (v4 : Int) = (v2 + 1)) (h3 : (v5 : Int) = v4) : ((v0 + v3) : Int) = v5 := by omega
theorem om_6643ebf01f7b {v1 v3 v4 v5 v6 v7 v8 : Int} {v0 v2 v9 : Nat} (h0 : (((v0 : Nat) : Int) : Int) = v1) (h1 : (((v2 : Nat) : Int) : Int) = v3) (h2 : (v4 : Int) = (24 * v3)) (h3 : (v5 : Int) = (v4 + v1)) (h4 : (v6 : Int) = (8 * v5)) (h5 : (v7 : Int) = (v6 + v8)) (h6 : (((v9 : Nat) : Int) : Int) = v8) : (v7 : Int) = ((((8 * ((24 * v2) + v0)) + v9) : Nat) : Int) := by omega
theorem om_66659e2cd4d6 {v1 : Int} {v0 v2 v3 : Nat} (h0 : (((v0 : Nat) : Int) : Int) = v1) (h1 : (((24 * v2) + v0) : Nat) = ((24 * v2) + v3)) : (v1 : Int) = ((v3 : Nat) : Int) := by omega
theorem om_66a649afc307 {v0 v1 v2 v3 v4 v5 : Int} (h0 : (0 : Int) ≤ v0) (h1 : (v0 : Int) ≤ 19) (h2 : (0 : Int) ≤ v1) (h3 : (v1 : Int) ≤ 1) (h4 : (v2 : Int) = (24 * v1)) (h5 : (0 : Int) ≤ v3) (h6 : (v3 : Int) ≤ 23) (h7 : (v4 : Int) = (v2 + v3)) (h8 : (v5 : Int) = (20 * v4)) : ((((-2147483648) : Int) ≤ (v5 + v0)) ∧ (((v5 + v0) : Int) ≤ 2147483647)) := by omega
theorem om_66f93e1729e3 {v0 v1 v2 : Int} (h0 : (v0 : Int) ≤ 24) (h1 : (0 : Int) ≤ v1) (h2 : (v1 : Int) < v0) (h3 : (v2 : Int) = (v1 + 1)) : (((0 : Int) ≤ v2) ∧ ((v2 : Int) ≤ 24)) := by omega
theorem om_6728719961f2 {v0 : Int} {v1 v2 : Nat} (h0 : ((10 - v0) : Int) ≤ ((v1 : Nat) : Int)) (h1 : (v0 : Int) ≤ 10) : (((8 + (4 + 11)) + 0) : Nat) ≤ (((100 * v2) + (1000 * v1)) + 590) := by omega
theorem om_673d720b062f {v3 v4 : Int} {v0 v1 v2 : Nat} (h0 : (v0 : Nat) < 2) (h1 : (v1 : Nat) = 24) (h2 : (((v2 : Nat) : Int) : Int) = v3) (h3 : (v4 : Int) = ((((24 * v0) + v2) : Nat) : Int)) (h4 : (v3 : Int) < ((v1 : Nat) : Int)) : ((((-1) : Int) ≤ v4) ∧ ((v4 : Int) ≤ 47)) := by omega
theorem om_674917f71baf {v0 v1 : Int} (h0 : (v0 : Int) ≤ 300) (h1 : (0 : Int) ≤ v1) (h2 : (v1 : Int) < v0) : (((0 : Int) ≤ v1) ∧ ((v1 : Int) ≤ 299)) := by omega
theorem om_677b6fa9a1cc {v0 : Int} {v1 : Nat} (h0 : (v0 : Int) = ((v1 : Nat) : Int)) (h1 : (v0 : Int) = 8) : (8 : Nat) ≤ v1 := by omega
theorem om_6798246221ef {v0 : Int} (h0 : (v0 : Int) = 7) (h1 : (v0 : Int) = 12) : False := by omega
theorem om_67af15a4007a {v0 v1 : Int} {v2 : Nat} (h0 : ((-1) : Int) ≤ v0) (h1 : (v0 : Int) < v1) (h2 : (v1 : Int) ≤ ((v2 : Nat) : Int)) (h3 : (v2 : Nat) = 20) (h4 : (v0 : Int) ≠ (-1)) : ((((-1) : Int) ≤ v0) ∧ ((v0 : Int) ≤ 19)) := by omega
theorem om_67c6ad613360 {v0 : Int} (h0 : (0 : Int) ≤ v0) (h1 : (v0 : Int) < 4000) : ((((-2147483648) : Int) ≤ (v0 + 1)) ∧ (((v0 + 1) : Int) ≤ 2147483647)) := by omega
theorem om_67f84156d2ff {v0 : Int} (h0 : (v0 : Int) ≤ 400) (h1 : (400 : Int) ≤ v0) : (((399 : Int) ≤ v0) ∧ ((v0 : Int) ≤ (399 + 1))) := by omega
theorem om_67ffdf78dff2 {v0 v1 v2 v3 v4 v5 v6 v7 : Int} (h0 : (v0 : Int) ≤ v1) (h1 : (((v2 + v3) - v0) : Int) ≤ 999000) (h2 : (0 : Int) ≤ v3) (h3 : ((v4 - v0) : Int) ≤ (v5 - v1)) (h4 : (((v6 + v7) - v4) : Int) ≤ ((v2 + v3) - v0)) (h5 : (v7 : Int) = v3) (h6 : (v5 : Int) ≤ 300) (h7 : (300 : Int) ≤ v6) : ((((-2147483648) : Int) ≤ (v6 + 1)) ∧ (((v6 + 1) : Int) ≤ 2147483647)) := by omega
theorem om_683296bf7754 {v1 v2 v3 v4 v5 v6 v7 : Int} {v0 : Nat} (h0 : (((v0 : Nat) : Int) : Int) = v1) (h1 : (v2 : Int) = (24 * v1)) (h2 : (0 : Int) ≤ v3) (h3 : (v4 : Int) = (v2 + v3)) (h4 : (0 : Int) ≤ v5) (h5 : (v6 : Int) = (20 * v4)) (h6 : (v7 : Int) = (v6 + v5)) : (0 : Int) ≤ v7 := by omega
theorem om_6843b3d39a18 {v0 : Int} (h0 : (0 : Int) ≤ v0) (h1 : (v0 : Int) ≤ 4000) : ((((-2147483648) : Int) ≤ (16 * v0)) ∧ (((16 * v0) : Int) ≤ 2147483647)) := by omega
theorem om_6860296b5c30 {v0 v1 v2 : Int} (h0 : (0 : Int) ≤ v0) (h1 : (v0 : Int) ≤ 4000) (h2 : (v0 : Int) ≤ v1) (h3 : (v1 : Int) = v2) (h4 : (v2 : Int) ≤ v0) : (((0 : Int) ≤ v2) ∧ ((v2 : Int) ≤ 4000)) := by omega
theorem om_688aeadf4b2f {v0 v1 v2 v3 : Int} (h0 : (v0 : Int) = (v1 + 1)) (h1 : (v2 : Int) = (v0 - 1)) (h2 : (v3 : Int) = v2) : (v3 : Int) = v1 := by omega
theorem om_689688249c8a {v1 v4 : Int} {v0 v2 v3 v5 v6 v7 : Nat} (h0 : (((v0 : Nat) : Int) : Int) = v1) (h1 : (((10000 * v2) + v3) : Nat) = v0) (h2 : (v4 : Int) = (v1 + 1)) (h3 : (v5 : Nat) = (v6 + 1)) (h4 : (((v6 : Nat) : Int) : Int) = ((v7 : Nat) : Int)) : (((((v5 : Nat) : Int) : Int) = (((v7 + 1) : Nat) : Int)) ∧ ((v4 : Int) = ((((10000 * v2) + (v3 + 1)) : Nat) : Int))) := by omega
theorem om_68a684ae2781 {v0 : Int} (h0 : (v0 : Int) = 133) : (v0 : Int) ≠ 0 := by omega
theorem om_68f131c046bb {v0 v1 : Int} (h0 : (v0 : Int) ≤ 250000) (h1 : ((-1) : Int) ≤ v1) (h2 : (v1 : Int) < v0) (h3 : (v1 : Int) ≠ (-1)) : (((0 : Int) ≤ v1) ∧ ((v1 : Int) ≤ 262143)) := by omega
theorem om_6978dc8c4356 {v0 v1 v2 v3 v4 v5 v6 v7 v8 v9 : Int} (h0 : (((v0 - v1) - v2) : Int) ≤ 1000000000) (h1 : (v3 : Int) = v2) (h2 : (v4 : Int) = v0) (h3 : (v5 : Int) = v6) (h4 : (((v7 - v8) - v9) : Int) ≤ ((v4 - v5) - v3)) (h5 : (v6 : Int) = (v1 + 1)) : (((v7 - v8) - v9) : Int) ≤ 1000000001 := by omega
theorem om_697b823fa352 {v1 v2 v3 : Int} {v0 : Nat} (h0 : ((((v0 : Nat) : Int) + 1) : Int) = v1) (h1 : (v2 : Int) = v1) (h2 : (v3 : Int) = v2) : ((((v0 : Nat) : Int) + 1) : Int) = v3 := by omega
theorem om_69b3a1170d24 {v0 v1 : Int} (h0 : (v0 : Int) ≤ 11) (h1 : (0 : Int) < v0) (h2 : (v1 : Int) = (v0 + (-1))) : (((0 : Int) ≤ v1) ∧ ((v1 : Int) ≤ 11)) := by omega
theorem om_69dfcb33e50b {v0 v3 : Int} {v1 v2 : Nat} (h0 : (v0 : Int) = ((v1 : Nat) : Int)) (h1 : ((24 * v2) : Nat) ≤ v1) (h2 : (v3 : Int) = v0) : (0 : Int) ≤ v3 := by omega
theorem om_6a07effa0c89 {v0 v1 v2 v3 v4 : Int} {v5 : Nat} (h0 : (v0 : Int) ≤ 4000) (h1 : (v1 : Int) ≤ v2) (h2 : (v2 : Int) = v0) (h3 : (v3 : Int) = (v1 - v4)) (h4 : (9 : Int) < v3) (h5 : (((v5 : Nat) : Int) : Int) = v4) : (((0 : Int) ≤ v1) ∧ ((v1 : Int) ≤ 4000)) := by omega
theorem om_6a0f2de44dff {v0 v1 v2 : Int} {v3 v4 v5 v6 : Nat} (h0 : (v0 : Int) ≤ 4000) (h1 : (0 : Int) ≤ v1) (h2 : (v2 : Int) < v0) (h3 : (((v3 : Nat) : Int) : Int) = v1) (h4 : (v4 : Nat) = v3) (h5 : (((v5 : Nat) : Int) : Int) = v2) (h6 : (v6 : Nat) = v5) (h7 : (v4 : Nat) < v6) : (((0 : Int) ≤ v2) ∧ ((v2 : Int) ≤ 4000)) := by omega
theorem om_6a0f53431c8f {v1 v2 : Int} {v0 : Nat} (h0 : (((v0 : Nat) : Int) : Int) = (1 - v1)) (h1 : (v0 : Nat) < 2) (h2 : (v2 : Int) = (1 - v1)) : ((((-2147483648) : Int) ≤ (10000 * v2)) ∧ (((10000 * v2) : Int) ≤ 2147483647)) := by omega
theorem om_6a44aa5f39d7 {v0 : Int} {v1 v2 : Nat} (h0 : ((10 - v0) : Int) ≤ ((v1 : Nat) : Int)) (h1 : (v0 : Int) ≤ 10) : ((0 + 1) : Nat) ≤ (((4 * v2) + (40 * v1)) + 15) := by omega
theorem om_6ad13008b6ba {v0 v1 v2 : Int} (h0 : (v0 : Int) ≤ v1) (h1 : (v2 : Int) ≤ v0) (h2 : (v1 : Int) ≤ 300) (h3 : (0 : Int) ≤ v2) : (((0 : Int) ≤ v0) ∧ ((v0 : Int) ≤ 300)) := by omega
theorem om_6b2bf4f04f48 {v0 v1 v2 : Int} (h0 : (0 : Int) ≤ v0) (h1 : (v1 : Int) = v0) (h2 : (v1 : Int) < v2) (h3 : (v2 : Int) ≤ 300) : (((0 : Int) ≤ v0) ∧ ((v0 : Int) ≤ 299)) := by omega
theorem om_6b30db2ae876 {v0 v2 : Int} {v1 : Nat} (h0 : (((v0 + (400 * ((v1 : Nat) : Int))) + 30) : Int) ≤ 19000) (h1 : (v2 : Int) = v0) : (((v2 + (400 * ((v1 : Nat) : Int))) + 30) : Int) ≤ 19000 := by omega
theorem om_6b8f29d97273 {v0 v1 v2 v3 : Int} (h0 : ((v0 + 1) : Int) = v1) (h1 : (v2 : Int) = (v0 + 1)) (h2 : (v3 : Int) = v2) : (v3 : Int) = v1 := by omega
theorem om_6bb1db7b29b7 {v0 : Int} (h0 : (v0 : Int) ≠ 43) (h1 : (v0 : Int) = 45) (h2 : (v0 : Int) = 43) : False := by omega
theorem om_6bb7015a75bc {v0 v1 v2 v3 v4 v5 v6 v7 v8 : Int} (h0 : (((v0 + v1) - v2) : Int) ≤ ((v3 + v4) - v5)) (h1 : (((v6 + v7) - v8) : Int) ≤ ((v0 + v1) - v2)) : (((v6 + v7) - v8) : Int) ≤ ((v3 + v4) - v5) := by omega
theorem om_6be2806efb3d {v0 : Nat} : ((((9762 + (5 * v0)) + 5) + 0) : Nat) ≤ (9762 + (5 * (v0 + 1))) := by omega
theorem om_6c55e7c13eef {v0 : Int} {v1 v2 v3 : Nat} (h0 : (v0 : Int) ≤ 23) (h1 : (v1 : Nat) < 2) (h2 : (v0 : Int) = ((v2 : Nat) : Int)) (h3 : (v3 : Nat) = v2) : (((24 * v1) + v3) : Nat) < 48 := by omega
theorem om_6c7f30948ec0 {v0 v1 v2 v6 : Int} {v3 v4 v5 v7 : Nat} (h0 : (v0 : Int) ≤ v1) (h1 : (v2 : Int) = (v0 + 1)) (h2 : (((v3 : Nat) : Int) : Int) = v1) (h3 : (v4 : Nat) = v3) (h4 : (((v5 : Nat) : Int) : Int) = v6) (h5 : (v7 : Nat) = v5) (h6 : (v4 : Nat) < v7) : (v2 : Int) ≤ v6 := by omega
theorem om_6c84dfc0d33f {v0 v1 v2 : Int} (h0 : (0 : Int) ≤ v0) (h1 : (v0 : Int) ≤ 23) (h2 : (0 : Int) ≤ v1) (h3 : (v1 : Int) ≤ 1) (h4 : (v2 : Int) = (24 * v1)) : ((((-2147483648) : Int) ≤ (v2 + v0)) ∧ (((v2 + v0) : Int) ≤ 2147483647)) := by omega
theorem om_6c923bc86801 {v0 : Int} (h0 : (v0 : Int) = 1) (h1 : (v0 : Int) = 3) : False := by omega
theorem om_6ca81d59f1e2 {v0 v1 v2 v3 v4 v5 v6 v7 v8 : Int} (h0 : (((v0 + v1) - v2) : Int) ≤ ((v3 + v4) - v5)) (h1 : (v6 : Int) = v2) (h2 : (v7 : Int) = v0) (h3 : (v8 : Int) = v1) : (((v7 + v8) - v6) : Int) ≤ ((v3 + v4) - v5) := by omega
theorem om_6caf7063c6d3 {v0 v1 v2 v3 v4 v5 v6 v7 v8 v9 v10 : Int} (h0 : (v0 : Int) ≤ v1) (h1 : (v2 : Int) ≤ v0) (h2 : (v3 : Int) = (v1 + 1)) (h3 : (v4 : Int) = v3) (h4 : (v5 : Int) = v2) (h5 : ((v6 - v7) : Int) ≤ (v8 - v4)) (h6 : ((v9 - v5) : Int) ≤ (v6 - v7)) (h7 : (v8 : Int) ≤ 300) (h8 : (0 : Int) ≤ v9) (h9 : (v10 : Int) = (v9 + 1)) : (((0 : Int) ≤ v10) ∧ ((v10 : Int) ≤ 300)) := by omega
theorem om_6cba548d3c39 {v1 v3 : Int} {v0 v2 v4 : Nat} (h0 : (((v0 : Nat) : Int) : Int) ≤ ((84 * v1) + 56)) (h1 : (((v2 : Nat) : Int) : Int) ≤ 27) (h2 : (v3 : Int) = v1) (h3 : (v4 : Nat) = (v2 + v0)) : (((v4 : Nat) : Int) : Int) ≤ ((84 * v3) + 84) := by omega
theorem om_6cbe604106fe {v0 v1 v2 : Int} (h0 : (v0 : Int) ≤ (8 * v1)) (h1 : (v2 : Int) = (v1 + 1)) : (v0 : Int) ≤ (8 * v2) := by omega
theorem om_6d325bb5c224 {v0 v1 v2 : Int} (h0 : (v0 : Int) ≤ 395) (h1 : (v1 : Int) = v0) (h2 : (v2 : Int) = (v1 - 1)) (h3 : (0 : Int) ≤ v2) : ((((-2147483648) : Int) ≤ (v1 - 1)) ∧ (((v1 - 1) : Int) ≤ 2147483647)) := by omega
theorem om_6d4311c163d0 {v0 : Int} (h0 : (v0 : Int) = 4) (h1 : (v0 : Int) = 12) : False := by omega
theorem om_6da7dbaf1b84 {v0 v1 : Int} (h0 : (v0 : Int) = 129) (h1 : (v1 : Int) = v0) : (v1 : Int) ≠ 0 := by omega
theorem om_6dda3d77dc44 {v0 v1 : Nat} : (((8 + (6 + 11)) + (((100 * v0) + (1000 * v1)) + 590)) : Nat) ≤ (((100 * v0) + (1000 * v1)) + 620) := by omega
theorem om_6de1b10062be {v0 : Nat} : ((((10 * v0) + 6) + 1) : Nat) ≤ ((10 * v0) + 7) := by omega
theorem om_6e1157ec7ad9 {v0 v2 : Int} {v1 v3 : Nat} (h0 : ((v0 + ((v1 : Nat) : Int)) : Int) ≤ 24) (h1 : (0 : Int) ≤ v0) (h2 : (v2 : Int) = (v0 + 1)) (h3 : ((((v3 : Nat) : Int) + 1) : Int) ≤ ((v1 : Nat) : Int)) : ((((-2147483648) : Int) ≤ (v2 - 1)) ∧ (((v2 - 1) : Int) ≤ 2147483647)) := by omega
theorem om_6e1dcbb49536 {v0 : Nat} (h0 : (v0 : Nat) ≤ 24) : (v0 : Nat) ≤ 24 := by omega
theorem om_6e5bbaaa0e03 {v1 v2 : Int} {v0 : Nat} (h0 : ((((v0 : Nat) : Int) + 1) : Int) = v1) (h1 : (v2 : Int) = v1) : ((((v0 : Nat) : Int) + 1) : Int) = v2 := by omega
theorem om_6e971164c8f3 {v0 : Nat} : ((0 + 1) : Nat) ≤ ((10 * v0) + 14) := by omega
theorem om_6e979e2facd3 {v0 v1 : Int} (h0 : (0 : Int) ≤ v0) (h1 : (v0 : Int) < v1) (h2 : (v1 : Int) ≤ 300) : ((((-2147483648) : Int) ≤ (v0 * 8)) ∧ (((v0 * 8) : Int) ≤ 2147483647)) := by omega
theorem om_6ea9ce1a644c {v0 v1 v2 v3 v4 : Int} (h0 : (v0 : Int) ≤ v1) (h1 : (v2 : Int) = (v3 - v1)) (h2 : (12 : Int) < v2) (h3 : (v4 : Int) = (v0 + 1)) : (v4 : Int) ≤ v3 := by omega
theorem om_6f18d472129c {v0 v1 v2 : Int} (h0 : (v0 : Int) ≤ 1) (h1 : (v1 : Int) = (24 * v0)) (h2 : (v2 : Int) ≤ 24) : ((v1 + v2) : Int) ≤ 48 := by omega
theorem om_6f5f60220346 {v1 v2 v3 : Int} {v0 v4 : Nat} (h0 : (((v0 : Nat) : Int) : Int) ≤ (84 * v1)) (h1 : (v2 : Int) = v1) (h2 : (v3 : Int) = v2) (h3 : (v4 : Nat) = (0 + v0)) : (((v4 : Nat) : Int) : Int) ≤ ((84 * v3) + 56) := by omega
theorem om_6f9bb8cf3bec {v0 v1 : Int} (h0 : (0 : Int) ≤ v0) (h1 : (v1 : Int) = 0) : (v1 : Int) ≤ v0 := by omega
theorem om_6fbb89b1a08a {v0 v1 v3 v6 : Int} {v2 v4 v5 : Nat} (h0 : (v0 : Int) ≤ 8) (h1 : (((v1 + (192 * ((v2 : Nat) : Int))) + 192) : Int) ≤ (v3 + (24 * v0))) (h2 : (v4 : Nat) = v2) (h3 : (v5 : Nat) ≤ v4) (h4 : (v6 : Int) = v1) : ((v6 + (192 * ((v5 : Nat) : Int))) : Int) ≤ v3 := by omega
theorem om_6ff35234c20b {v0 v2 : Int} {v1 : Nat} (h0 : (v0 : Int) = ((v1 : Nat) : Int)) (h1 : (v2 : Int) = (v0 + 1)) : (v2 : Int) = (((v1 + 1) : Nat) : Int) := by omega
theorem om_7018c714c2d5 {v1 v3 v5 v6 v7 v8 v9 : Int} {v0 v2 v4 : Nat} (h0 : (((v0 : Nat) : Int) : Int) = v1) (h1 : (((v2 : Nat) : Int) : Int) = v3) (h2 : (((v4 : Nat) : Int) : Int) = v5) (h3 : (v6 : Int) = (24 * v1)) (h4 : (v7 : Int) = (v6 + v3)) (h5 : (v8 : Int) = (8 * v7)) (h6 : (v9 : Int) = (v8 + v5)) : (v9 : Int) = ((((8 * ((24 * v0) + v2)) + v4) : Nat) : Int) := by omega
theorem om_70363dd179ee {v0 v1 v2 v3 v4 v5 v6 v7 v8 v9 v10 : Int} (h0 : (v0 : Int) ≤ v1) (h1 : (v2 : Int) ≤ v0) (h2 : (v3 : Int) = (v1 + 1)) (h3 : (v4 : Int) = v3) (h4 : (v5 : Int) = v2) (h5 : ((v6 - v7) : Int) ≤ (v8 - v4)) (h6 : ((v9 - v5) : Int) ≤ (v6 - v7)) (h7 : (v8 : Int) ≤ 300) (h8 : (0 : Int) ≤ v9) (h9 : (v10 : Int) = v9) : ((((-2147483648) : Int) ≤ (v10 + 1)) ∧ (((v10 + 1) : Int) ≤ 2147483647)) := by omega
theorem om_70510bf9f0cb {v1 v3 : Int} {v0 v2 : Nat} (h0 : ((((v0 : Nat) : Int) + 1) : Int) = v1) (h1 : (v2 : Nat) = v0) (h2 : (v2 : Nat) ≤ 394) (h3 : (v3 : Int) = v1) : ((((-2147483648) : Int) ≤ (v3 - 1)) ∧ (((v3 - 1) : Int) ≤ 2147483647)) := by omega
theorem om_705a6f7f82d0 {v0 v1 v2 v3 v4 : Int} (h0 : (0 : Int) ≤ v0) (h1 : (v0 : Int) ≤ 9) (h2 : (v1 : Int) = (v0 + 1)) (h3 : (v2 : Int) = v1) (h4 : (v3 : Int) = v2) (h5 : (v4 : Int) = (v3 - 1)) : (((0 : Int) ≤ v4) ∧ ((v4 : Int) ≤ 10)) := by omega
theorem om_7087eba4904d {v0 : Int} (h0 : (v0 : Int) = 8) : (((1 : Int) ≤ v0) ∧ ((v0 : Int) ≤ 11)) := by omega
theorem om_70a0fbc5700a {v0 : Int} (h0 : (v0 : Int) ≤ 0) : (v0 : Int) ≤ 10000 := by omega
theorem om_70d79fd0bc3e {v0 v1 v2 v3 : Int} (h0 : (0 : Int) ≤ v0) (h1 : (v0 : Int) ≤ v1) (h2 : (v2 : Int) ≤ 40) (h3 : (v1 : Int) < v2) (h4 : (v3 : Int) = (v0 + 0)) : (((0 : Int) ≤ v3) ∧ ((v3 : Int) ≤ 40)) := by omega
theorem om_7130191f6f34 {v0 v1 v2 : Nat} : (((8 + (7 + 11)) + ((((100 * v0) + (1000 * v1)) + 560) + (60 * v2))) : Nat) ≤ ((((100 * v0) + (1000 * v1)) + 588) + (60 * v2)) := by omega
theorem om_713cd400b886 {v0 v1 v2 v3 v4 v5 v6 v7 v8 v9 : Int} (h0 : (v0 : Int) = (v1 + 1)) (h1 : (v2 : Int) = v0) (h2 : (v3 : Int) = v4) (h3 : ((v5 - v3) : Int) ≤ (v6 - v2)) (h4 : (v7 : Int) = (v5 + 1)) (h5 : (v8 : Int) = v6) (h6 : (v9 : Int) = v7) : ((v9 - v4) : Int) ≤ (v8 - v1) := by omega
theorem om_7145e2df7c27 {v1 v3 v4 v5 v6 : Int} {v0 v2 : Nat} (h0 : (v0 : Nat) ≤ 24) (h1 : (((v1 + (192 * ((v2 : Nat) : Int))) + 192) : Int) ≤ ((v3 + (24 * v4)) + v5)) (h2 : (v5 : Int) ≤ ((v0 : Nat) : Int)) (h3 : (v6 : Int) = (v4 + 1)) : (((v1 + (192 * ((v2 : Nat) : Int))) + 192) : Int) ≤ (v3 + (24 * v6)) := by omega
theorem om_715e5b210718 {v0 : Int} {v1 : Nat} (h0 : (v0 : Int) ≤ 8) (h1 : ((8 - v0) : Int) ≤ ((v1 : Nat) : Int)) : (((8 + (1 + 11)) + 0) : Nat) ≤ ((300 * v1) + 180) := by omega
theorem om_71687dbe419e {v0 : Int} (h0 : (400 : Int) ≤ v0) (h1 : (v0 : Int) < 400) : False := by omega
theorem om_71754fccb589 {v0 : Int} {v1 : Nat} (h0 : ((v0 + (192 * ((v1 : Nat) : Int))) : Int) ≤ 4800) : ((v0 + (192 * ((v1 : Nat) : Int))) : Int) ≤ 999000 := by omega
theorem om_717715ebf74e {v0 v1 v2 v3 v4 v5 : Int} (h0 : (v0 : Int) = v1) (h1 : (v2 : Int) = v3) (h2 : (v4 : Int) = v5) : (((v2 - v4) - v0) : Int) ≤ ((v3 - v5) - v1) := by omega
theorem om_71a9c3e930b1 {v0 v2 v3 : Int} {v1 : Nat} (h0 : (v0 : Int) = ((v1 : Nat) : Int)) (h1 : (v1 : Nat) ≤ 24) (h2 : (0 : Int) ≤ v2) (h3 : (v2 : Int) < v0) (h4 : (v3 : Int) = (v2 + 1)) : (((0 : Int) ≤ v3) ∧ ((v3 : Int) ≤ 24)) := by omega
theorem om_71c20f736ea3 {v0 : Int} {v1 v2 v3 : Nat} (h0 : (v0 : Int) ≤ 47) (h1 : (v0 : Int) = ((v1 : Nat) : Int)) (h2 : (v1 : Nat) = ((24 * v2) + v3)) : ((((-2147483648) : Int) ≤ (24 * v0)) ∧ (((24 * v0) : Int) ≤ 2147483647)) := by omega
theorem om_71ce40002410 {v0 v1 v2 : Int} (h0 : (0 : Int) ≤ v0) (h1 : (v0 : Int) ≤ v1) (h2 : (v2 : Int) ≤ 12) (h3 : (v1 : Int) < v2) : (((0 : Int) ≤ v0) ∧ ((v0 : Int) ≤ 12)) := by omega
theorem om_71db763616c9 {v0 v1 : Int} (h0 : (v0 : Int) ≤ 3999) (h1 : (0 : Int) ≤ v0) (h2 : (v1 : Int) = (v0 + 1)) : (((0 : Int) ≤ v1) ∧ ((v1 : Int) ≤ 4000)) := by omega
theorem om_7278a667eb4f {v0 : Int} {v1 : Nat} (h0 : (v0 : Int) = ((v1 : Nat) : Int)) : (((v1 : Nat) : Int) : Int) = v0 := by omega
theorem om_72a8a4bae0db {v0 v1 v2 v3 v4 v5 v6 v7 v8 : Int} (h0 : (v0 : Int) = v1) (h1 : (v2 : Int) = v3) (h2 : (v4 : Int) = v5) (h3 : (((v6 + v7) - v8) : Int) ≤ ((v4 + v2) - v0)) : (((v6 + v7) - v8) : Int) ≤ ((v5 + v3) - v1) := by omega
theorem om_72cbe5ebfd99 {v0 v1 v2 v3 : Int} (h0 : (0 : Int) ≤ v0) (h1 : (v0 : Int) ≤ 1) (h2 : (0 : Int) ≤ v1) (h3 : (v2 : Int) ≤ 12) (h4 : (v1 : Int) < v2) (h5 : (v3 : Int) = (12 * v0)) : ((((-2147483648) : Int) ≤ (v3 + v1)) ∧ (((v3 + v1) : Int) ≤ 2147483647)) := by omega
theorem om_72f6b00caa2f {v0 v2 v3 v4 : Int} {v1 : Nat} (h0 : (0 : Int) ≤ v0) (h1 : (((v1 : Nat) : Int) : Int) = v2) (h2 : (v3 : Int) = (8 * v0)) (h3 : (v4 : Int) = (v3 + v2)) : (0 : Int) ≤ v4 := by omega
theorem om_731fead9210c {v0 v1 v2 : Int} (h0 : (v0 : Int) < v1) (h1 : (v2 : Int) = (v0 + 1)) : (((v2 : Int) ≤ v1) ∧ ((v0 : Int) < (v1 + 1))) := by omega
theorem om_73291ea159ab {v0 : Int} (h0 : (v0 : Int) = 2) : (((1 : Int) ≤ v0) ∧ ((v0 : Int) ≤ 11)) := by omega
theorem om_7390990253c3 {v0 v1 : Int} (h0 : (0 : Int) ≤ v0) (h1 : (v0 : Int) ≤ v1) (h2 : (v1 : Int) < 340) : ((((-2147483648) : Int) ≤ (v1 + 1)) ∧ (((v1 + 1) : Int) ≤ 2147483647)) := by omega
theorem om_7390df9cc880 {v0 v2 : Int} {v1 : Nat} (h0 : ((4000 - v0) : Int) < ((v1 : Nat) : Int)) (h1 : (v2 : Int) = (v0 + 1)) : ((4000 - v2) : Int) < ((v1 : Nat) : Int) := by omega
theorem om_739bffcf43dc {v0 v1 : Int} (h0 : (0 : Int) ≤ v0) (h1 : (v0 : Int) < 100) (h2 : (v1 : Int) = (v0 + 1)) : (((0 : Int) ≤ v1) ∧ ((v1 : Int) ≤ 100)) := by omega
theorem om_73e1d5151b18 {v0 v2 v3 : Int} {v1 : Nat} (h0 : (v0 : Int) = ((v1 : Nat) : Int)) (h1 : (v1 : Nat) ≤ 24) (h2 : (v2 : Int) = v0) (h3 : (0 : Int) ≤ v3) (h4 : (v3 : Int) < v2) : (((0 : Int) ≤ v3) ∧ ((v3 : Int) ≤ 23)) := by omega
theorem om_73fe0f3fe2c1 {v0 v1 v2 v3 v4 : Int} (h0 : ((v0 + 1) : Int) ≤ v1) (h1 : ((v2 - v0) : Int) ≤ (v3 - v1)) (h2 : (v3 : Int) ≤ 300) (h3 : (0 : Int) ≤ v2) (h4 : (v4 : Int) = v2) : (((0 : Int) ≤ v4) ∧ ((v4 : Int) ≤ 300)) := by omega
theorem om_7411daa793f9 {v0 : Int} (h0 : (v0 : Int) = 11) : (v0 : Int) ≠ 3 := by omega
theorem om_743871df72dc {v0 v1 v3 : Int} {v2 : Nat} (h0 : ((-1) : Int) ≤ v0) (h1 : (v0 : Int) < v1) (h2 : (v2 : Nat) = 20) (h3 : (v1 : Int) = v3) (h4 : (v3 : Int) ≤ ((v2 : Nat) : Int)) : ((((-1) : Int) ≤ v0) ∧ ((v0 : Int) ≤ 19)) := by omega
theorem om_74393bacf057 {v0 v2 : Int} {v1 : Nat} (h0 : (v0 : Int) = ((v1 : Nat) : Int)) (h1 : (v2 : Int) < v0) : (v2 : Int) < ((v1 : Nat) : Int) := by omega
theorem om_745f16607728 {v0 v1 v2 v3 : Int} (h0 : (v0 : Int) < v1) (h1 : (v2 : Int) ≤ v0) (h2 : (v3 : Int) = (v2 + (-1))) : (v3 : Int) < v1 := by omega
theorem om_7491c7ca2629 {v0 : Int} (h0 : (v0 : Int) = 139) : (v0 : Int) ≠ 0 := by omega
theorem om_749ef7bb545c {v1 v2 v3 : Int} {v0 : Nat} (h0 : (((v0 : Nat) : Int) : Int) = v1) (h1 : (v2 : Int) = v1) (h2 : (v3 : Int) = v2) : (v3 : Int) = ((v0 : Nat) : Int) := by omega
theorem om_74a39192ceaa {v0 v2 : Int} {v1 : Nat} (h0 : ((v0 + 8) : Int) < ((v1 : Nat) : Int)) (h1 : (v2 : Int) = (v0 + (-8))) : ((v2 + 8) : Int) < ((v1 : Nat) : Int) := by omega
theorem om_74d79b0c04be {v0 : Nat} (h0 : (v0 : Nat) < 24) : (((8394 + (57 * v0)) + 13) : Nat) ≤ 9822 := by omega
theorem om_74e331c57fe4 {v0 v1 v2 v3 : Int} (h0 : (v0 : Int) = (1 - v1)) (h1 : (v2 : Int) = (10000 * v0)) (h2 : (v3 : Int) = v2) (h3 : (v3 : Int) ≤ 10000) : (0 : Int) ≤ v1 := by omega
theorem om_74ecf20d1742 {v0 : Nat} : (((8 + (4 + 11)) + 0) : Nat) ≤ ((300 * v0) + 460) := by omega
theorem om_74f3e2f2309b {v0 v1 v2 v3 v4 v5 v6 : Int} (h0 : (0 : Int) ≤ v0) (h1 : (0 : Int) ≤ v1) (h2 : (v2 : Int) = (24 * v1)) (h3 : (0 : Int) ≤ v3) (h4 : (v4 : Int) = (v2 + v3)) (h5 : (v5 : Int) = (20 * v4)) (h6 : (v6 : Int) = (v5 + v0)) : (0 : Int) ≤ v6 := by omega
theorem om_755bf3536861 {v0 : Int} {v1 : Nat} (h0 : (v0 : Int) ≤ 47) (h1 : (((v1 : Nat) : Int) : Int) = v0) : (v1 : Nat) < 48 := by omega
theorem om_756680afaca1 {v1 v2 v4 : Int} {v0 v3 : Nat} (h0 : (((v0 : Nat) : Int) : Int) ≤ (84 * v1)) (h1 : (v2 : Int) = v1) (h2 : (v3 : Nat) = (0 + v0)) (h3 : (v4 : Int) = v2) : (((v3 : Nat) : Int) : Int) ≤ ((84 * v4) + 56) := by omega
theorem om_757b597c0315 {v0 : Int} (h0 : (v0 : Int) = 3) (h1 : (v0 : Int) = 15) : False := by omega
theorem om_7591b83d41f0 {v0 : Int} (h0 : (0 : Int) ≤ v0) (h1 : (v0 : Int) ≤ 8200) : ((((-1) : Int) ≤ v0) ∧ ((v0 : Int) ≤ 8200)) := by omega
theorem om_75abbf7b0b1b {v0 v1 v2 v3 : Int} (h0 : (0 : Int) ≤ v0) (h1 : (0 : Int) ≤ v1) (h2 : (v2 : Int) = (v0 * 8)) (h3 : (v3 : Int) = (v2 + v1)) : (0 : Int) ≤ v3 := by omega
theorem om_75b16df33f0b {v0 v1 v2 v3 v4 v5 v6 : Int} (h0 : (0 : Int) ≤ v0) (h1 : (v0 : Int) ≤ 7) (h2 : (0 : Int) ≤ v1) (h3 : (v1 : Int) ≤ 23) (h4 : (0 : Int) ≤ v2) (h5 : (v2 : Int) ≤ 1) (h6 : (v3 : Int) = (24 * v2)) (h7 : (v4 : Int) = (v3 + v1)) (h8 : (v5 : Int) = (8 * v4)) (h9 : (v6 : Int) = (v5 + v0)) : (((0 : Int) ≤ v6) ∧ ((v6 : Int) ≤ 383)) := by omega
theorem om_760427d6503a {v0 : Int} (h0 : (v0 : Int) ≤ 299) (h1 : (0 : Int) ≤ v0) : ((((-2147483648) : Int) ≤ (v0 + 1)) ∧ (((v0 + 1) : Int) ≤ 2147483647)) := by omega
theorem om_76052c512981 {v0 : Int} (h0 : (0 : Int) ≤ v0) (h1 : (v0 : Int) ≠ 0) : (1 : Int) ≤ v0 := by omega
theorem om_76305e1b0f3d {v0 v1 : Int} (h0 : (v0 : Int) = 140) (h1 : (v1 : Int) = v0) : (v1 : Int) ≠ 0 := by omega
theorem om_76354cc287f1 {v0 v1 : Int} (h0 : (148 : Int) ≤ v0) (h1 : (v1 : Int) = v0) : (v1 : Int) ≠ 0 := by omega
theorem om_763a2df3161d {v0 v1 v2 v3 : Int} (h0 : (v0 : Int) = v1) (h1 : (v2 : Int) = v3) : ((v2 - v0) : Int) ≤ ((v3 - v1) + 300) := by omega
theorem om_764b853ca1c3 {v0 v1 : Int} {v2 : Nat} (h0 : ((-1) : Int) ≤ v0) (h1 : (v0 : Int) < v1) (h2 : (v1 : Int) ≤ ((v2 : Nat) : Int)) (h3 : (v2 : Nat) = 12) : ((((-1) : Int) ≤ v0) ∧ ((v0 : Int) ≤ 23)) := by omega
theorem om_76533fabe319 {v0 : Int} (h0 : (v0 : Int) = 9) : (((1 : Int) ≤ v0) ∧ ((v0 : Int) ≤ 11)) := by omega
theorem om_76644d12f753 {v0 : Int} {v1 : Nat} (h0 : (v0 : Int) ≤ 7) (h1 : ((7 - v0) : Int) ≤ ((v1 : Nat) : Int)) : ((1 + 1) : Nat) ≤ ((10 * v1) + 11) := by omega
theorem om_766921b26275 {v0 v1 v2 : Int} (h0 : (v0 : Int) = v1) (h1 : (v2 : Int) ≤ v0) : ¬ ((v1 : Int) < v2) := by omega
theorem om_76a34b28fb8f {v0 v1 : Int} (h0 : (v0 : Int) ≤ 6) (h1 : ((7 - v0) : Int) < v1) : (0 : Int) ≤ (v1 - 1) := by omega
theorem om_76b0493e0dd2 {v0 v1 v2 v3 v4 v5 : Int} (h0 : (((v0 + v1) - v2) : Int) ≤ 999000) (h1 : (v3 : Int) = v2) (h2 : (v4 : Int) = v1) (h3 : (v5 : Int) = v0) : (((v5 + v4) - v3) : Int) ≤ 999000 := by omega
theorem om_76cc5f5a03ba {v0 : Int} (h0 : (v0 : Int) = 14) (h1 : (v0 : Int) ≠ 14) : False := by omega
theorem om_77385023321c {v0 v1 v2 v3 v4 v5 : Int} (h0 : (0 : Int) ≤ v0) (h1 : (v1 : Int) = (v0 + 1)) (h2 : (v2 : Int) = v1) (h3 : (v2 : Int) ≤ v3) (h4 : (v4 : Int) = v3) (h5 : (v5 : Int) = v0) : (((0 : Int) ≤ v5) ∧ ((v5 : Int) < v4)) := by omega
theorem om_7755913ec014 {v0 : Nat} (h0 : (v0 : Nat) < 48) : (v0 : Nat) < 48 := by omega
theorem om_7758acaab0c9 {v0 v1 v2 v3 : Int} (h0 : (v0 : Int) ≤ 999000) (h1 : (v1 : Int) ≤ (v0 + v2)) (h2 : (v3 : Int) ≤ 8) (h3 : (v2 : Int) < v3) : (v1 : Int) ≤ 999999 := by omega
theorem om_778bd2371a89 {v0 : Int} (h0 : (0 : Int) ≤ v0) (h1 : (v0 : Int) < 9) : ((((-2147483648) : Int) ≤ (v0 + 1)) ∧ (((v0 + 1) : Int) ≤ 2147483647)) := by omega
theorem om_77a2a7ad51d8 {v0 v1 : Int} (h0 : (0 : Int) ≤ v0) (h1 : (v0 : Int) < 20) (h2 : (v1 : Int) = (v0 + 1)) : (((0 : Int) ≤ v1) ∧ ((v1 : Int) ≤ 20)) := by omega
theorem om_77b3130ca834 {v1 v2 : Int} {v0 : Nat} (h0 : (((v0 : Nat) : Int) : Int) < v1) (h1 : (v2 : Int) = (((v0 : Nat) : Int) + 1)) : (v2 : Int) ≤ v1 := by omega
theorem om_77dc69576e2a {v0 v1 : Nat} : (((8 + (6 + 11)) + (((100 * v0) + (1000 * v1)) + 320)) : Nat) ≤ (((100 * v0) + (1000 * v1)) + 350) := by omega
theorem om_77e56efe40a2 {v0 : Int} (h0 : (v0 : Int) = 2) (h1 : (v0 : Int) = 13) : False := by omega
theorem om_7820ea5c7df8 {v0 v1 : Int} (h0 : (0 : Int) ≤ v0) (h1 : (v0 : Int) < 24) (h2 : (0 : Int) ≤ v1) (h3 : (v1 : Int) ≤ 32) : ((((-2147483648) : Int) ≤ (v0 + v1)) ∧ (((v0 + v1) : Int) ≤ 2147483647)) := by omega
theorem om_78286008d1d3 {v0 v1 v2 : Int} (h0 : (0 : Int) ≤ v0) (h1 : (v0 : Int) ≤ 1) (h2 : (0 : Int) ≤ v1) (h3 : (v1 : Int) ≤ 23) (h4 : (v2 : Int) = (24 * v0)) : ((((-2147483648) : Int) ≤ (v2 + v1)) ∧ (((v2 + v1) : Int) ≤ 2147483647)) := by omega
theorem om_7833cbc177ca {v0 : Int} (h0 : (0 : Int) ≤ v0) (h1 : (v0 : Int) ≤ 7) : ((((-2147483648) : Int) ≤ (v0 + 1)) ∧ (((v0 + 1) : Int) ≤ 2147483647)) := by omega
theorem om_783d63a3b397 {v1 v2 v3 v4 : Int} {v0 : Nat} (h0 : (((v0 : Nat) : Int) : Int) = (1 - v1)) (h1 : (v2 : Int) = (1 - v1)) (h2 : (v3 : Int) = (10000 * v2)) (h3 : (v4 : Int) = v3) : (v4 : Int) = (10000 * ((v0 : Nat) : Int)) := by omega
theorem om_78545e9d2a17 {v1 : Int} {v0 v2 : Nat} (h0 : (((v0 : Nat) : Int) : Int) ≤ ((84 * v1) + 56)) (h1 : (((v2 : Nat) : Int) : Int) ≤ 27) (h2 : (v1 : Int) ≤ 9) : ((v2 + v0) : Nat) ≤ 2000 := by omega
theorem om_788bec03cc2a {v0 v1 : Int} (h0 : (v0 : Int) ≤ v1) (h1 : (0 : Int) < v0) : (0 : Int) ≤ v1 := by omega
theorem om_789d02abd9c5 {v0 v1 v2 : Int} (h0 : (v0 : Int) ≤ 1) (h1 : (v1 : Int) = (12 * v0)) (h2 : (v2 : Int) ≤ 12) : ((v1 + v2) : Int) ≤ 24 := by omega
theorem om_78e0d29cc3ea {v0 v1 : Nat} : (((((4 * v0) + (40 * v1)) + 9) + 1) : Nat) ≤ (((4 * v0) + (40 * v1)) + 10) := by omega
theorem om_78e78cb014fe {v0 v2 v3 : Int} {v1 v4 : Nat} (h0 : (v0 : Int) = ((v1 : Nat) : Int)) (h1 : (v0 : Int) = v2) (h2 : (v3 : Int) < v2) (h3 : (((v4 : Nat) : Int) : Int) = v3) : (v4 : Nat) < v1 := by omega
theorem om_78f6a1e7275d {v0 v1 v2 v3 v4 v5 v6 v7 : Int} (h0 : (0 : Int) ≤ v0) (h1 : (0 : Int) ≤ v1) (h2 : (v1 : Int) ≤ 7) (h3 : (v0 : Int) < v2) (h4 : (v2 : Int) ≤ 300) (h5 : (0 : Int) ≤ v3) (h6 : (v4 : Int) ≤ 24) (h7 : (v3 : Int) < v4) (h8 : (v5 : Int) = (8 * v0)) (h9 : (v6 : Int) = (v5 + v1)) (h10 : (v7 : Int) = (24 * v6)) : ((((-2147483648) : Int) ≤ (v7 + v3)) ∧ (((v7 + v3) : Int) ≤ 2147483647)) := by omega
theorem om_7908c4809167 {v1 v2 v4 : Int} {v0 v3 : Nat} (h0 : (((v0 : Nat) : Int) : Int) ≤ ((84 * v1) + 56)) (h1 : (v2 : Int) = v1) (h2 : (v3 : Nat) = (0 + v0)) (h3 : (v4 : Int) = v2) : (((v3 : Nat) : Int) : Int) ≤ ((84 * v4) + 56) := by omega
theorem om_79347f38c257 {v0 v1 v2 v3 : Int} (h0 : (v0 : Int) = v1) (h1 : (v2 : Int) < v1) (h2 : (v3 : Int) = (v2 + 1)) : (v3 : Int) ≤ v0 := by omega
theorem om_79850c49fe9a {v0 v1 : Int} (h0 : (1 : Int) ≤ v0) (h1 : (v0 : Int) ≤ 400) (h2 : (v1 : Int) = (v0 - 1)) : (((0 : Int) ≤ v1) ∧ ((v1 : Int) ≤ 400)) := by omega
theorem om_7992c83b4b8b {v0 v1 : Int} (h0 : (0 : Int) ≤ v0) (h1 : (v1 : Int) ≤ 12) (h2 : (v0 : Int) < v1) : ((((-2147483648) : Int) ≤ (v0 + 1)) ∧ (((v0 + 1) : Int) ≤ 2147483647)) := by omega
theorem om_79968e91715f {v0 v1 v2 : Int} (h0 : (v0 : Int) < v1) (h1 : (v1 : Int) ≤ 4000) (h2 : (0 : Int) ≤ v0) (h3 : (v2 : Int) = (v0 + 1)) : (((0 : Int) ≤ v2) ∧ ((v2 : Int) ≤ 4000)) := by omega
theorem om_79e501bad51d {v0 : Nat} : ((1 + 1) : Nat) ≤ ((10 * v0) + 11) := by omega
theorem om_79f4bcbb285d {v0 v1 v2 v3 v4 v5 : Int} {v6 : Nat} (h0 : (v0 : Int) = 0) (h1 : (0 : Int) ≤ v1) (h2 : (v2 : Int) = v3) (h3 : ((v2 + 1) : Int) ≤ v4) (h4 : (v5 : Int) ≤ ((v6 : Nat) : Int)) (h5 : ((v4 + 1) : Int) ≤ v5) (h6 : ((v1 + 1) : Int) ≤ v3) : (((0 : Int) ≤ v5) ∧ ((((v5 : Int) ≤ ((v6 : Nat) : Int)) ∧ ((((v0 : Int) = 0) ∧ (((v1 + 1) : Int) ≤ v5)))))) := by omega
theorem om_7a1d7d6ebade {v0 v1 v2 v3 v4 v5 : Int} (h0 : (v0 : Int) ≤ 3000) (h1 : (v0 : Int) ≠ 3000) (h2 : (v1 : Int) ≤ 60000) (h3 : (v1 : Int) ≠ 60000) (h4 : (v2 : Int) = (v0 + 1)) (h5 : (v3 : Int) = (v1 + 1)) (h6 : (v4 : Int) = v2) (h7 : (v5 : Int) = v3) : (((v4 : Int) = (v0 + 1)) ∧ ((((v5 : Int) = (v1 + 1)) ∧ ((((v0 : Int) < 3000) ∧ ((v1 : Int) < 60000)))))) := by omega
theorem om_7a262ba27afb {v0 : Int} (h0 : (v0 : Int) ≤ 2) (h1 : (v0 : Int) ≠ 2) (h2 : (v0 : Int) = 2) : False := by omega
theorem om_7a329117c856 {v0 : Int} {v1 : Nat} (h0 : (0 : Int) ≤ v0) (h1 : (v0 : Int) < ((v1 : Nat) : Int)) : (((0 : Int) ≤ v0) ∧ ((v0 : Int) ≤ ((v1 : Nat) : Int))) := by omega
theorem om_7a4146f78230 {v0 v1 v2 v3 v4 : Int} (h0 : (v0 : Int) = v1) (h1 : (v2 : Int) = v0) (h2 : (v3 : Int) ≤ (8050 - (6 * v2))) (h3 : (v4 : Int) = (v3 + 1)) : (v4 : Int) ≤ (8051 - (6 * v1)) := by omega
theorem om_7a5ac9328048 {v3 : Int} {v0 v1 v2 : Nat} (h0 : (v0 : Nat) < 2) (h1 : (v1 : Nat) = 24) (h2 : (((v2 : Nat) : Int) : Int) = v3) (h3 : (v3 : Int) < ((v1 : Nat) : Int)) : (((24 * v0) + v2) : Nat) < 48 := by omega
theorem om_7a7d927724fb {v0 v1 v2 v3 v4 v5 v6 v7 : Int} (h0 : ((v0 - v1) : Int) ≤ (v2 - v3)) (h1 : (v4 : Int) = v0) (h2 : (v5 : Int) = v2) (h3 : ((v6 - v4) : Int) ≤ (v7 - v5)) : ((v6 - v1) : Int) ≤ (v7 - v3) := by omega
theorem om_7a8739bfe9ff {v0 v1 v2 v3 v4 v5 : Int} (h0 : (v0 : Int) ≤ 4000) (h1 : (0 : Int) ≤ v1) (h2 : (v1 : Int) ≤ v2) (h3 : (v3 : Int) < v0) (h4 : (v4 : Int) = (v3 - v2)) (h5 : (12 : Int) < v4) (h6 : (v5 : Int) = (v1 + 1)) : (((0 : Int) ≤ v5) ∧ ((v5 : Int) ≤ 4000)) := by omega
theorem om_7a88c8274363 {v1 v2 v3 v4 v5 v6 v7 : Int} {v0 : Nat} (h0 : (((v0 : Nat) : Int) : Int) = v1) (h1 : (v2 : Int) = (24 * v1)) (h2 : (0 : Int) ≤ v3) (h3 : (v4 : Int) = (v2 + v3)) (h4 : (0 : Int) ≤ v5) (h5 : (v6 : Int) = (24 * v4)) (h6 : (v7 : Int) = (v6 + v5)) : (0 : Int) ≤ v7 := by omega
theorem om_7a8d26f5d514 {v0 : Int} {v1 : Nat} (h0 : (v0 : Int) = ((v1 : Nat) : Int)) (h1 : (v0 : Int) = 1) : (v1 : Nat) = 1 := by omega
theorem om_7a8fa918533d {v0 : Int} (h0 : (0 : Int) ≤ v0) (h1 : (v0 : Int) ≤ 2) (h2 : (v0 : Int) ≠ 0) : (((0 : Int) ≤ v0) ∧ ((v0 : Int) ≤ 2)) := by omega
theorem om_7ae002312ece {v0 v1 v2 v3 v4 v5 v6 v7 v8 v9 : Int} (h0 : (v0 : Int) = (v1 + 1)) (h1 : (v2 : Int) = v0) (h2 : (v3 : Int) = v4) (h3 : (v5 : Int) = v6) (h4 : ((((v6 - v4) - v1) + 1) : Int) ≤ ((v7 - v8) - v9)) : (((v5 - v3) - v2) : Int) ≤ ((v7 - v8) - v9) := by omega
theorem om_7b20f32ff44c {v0 v1 v2 v3 v4 v5 v6 v7 v8 v9 v10 v11 : Int} (h0 : (((v0 - v1) - v2) : Int) ≤ ((v3 - v4) - v5)) (h1 : (v6 : Int) = v2) (h2 : (v7 : Int) = v0) (h3 : (v8 : Int) = v1) (h4 : (((v9 - v10) - v11) : Int) ≤ ((v7 - v8) - v6)) : (((v9 - v10) - v11) : Int) ≤ ((v3 - v4) - v5) := by omega
theorem om_7b3ad48442a9 {v0 : Int} (h0 : (v0 : Int) ≤ 11) (h1 : (0 : Int) < v0) : ((((-2147483648) : Int) ≤ (v0 + (-1))) ∧ (((v0 + (-1)) : Int) ≤ 2147483647)) := by omega
theorem om_7b3d75711927 {v0 : Int} (h0 : (v0 : Int) = 8) : (v0 : Int) ≠ 3 := by omega
theorem om_7b4d4e5087fa {v0 v1 : Int} {v2 : Nat} (h0 : (v0 : Int) = 0) (h1 : (v1 : Int) = v0) (h2 : (v2 : Nat) = 0) : (((v2 : Nat) : Int) : Int) ≤ ((84 * v1) + 56) := by omega
theorem om_7b57350f0a3a {v0 : Int} (h0 : (0 : Int) ≤ v0) (h1 : (v0 : Int) ≤ 9) : (((0 : Int) ≤ v0) ∧ ((v0 : Int) ≤ 9)) := by omega
theorem om_7c19206264d1 {v0 v1 v2 : Int} (h0 : (0 : Int) ≤ v0) (h1 : (v1 : Int) ≤ 8) (h2 : (v0 : Int) < v1) (h3 : (v2 : Int) = (v0 + 1)) : (((0 : Int) ≤ v2) ∧ ((v2 : Int) ≤ 8)) := by omega
theorem om_7c7da5faf5fa {v0 v1 v2 v3 : Int} (h0 : (v0 : Int) = 4) (h1 : (v1 : Int) = v2) (h2 : (v3 : Int) = v0) : (((v1 : Int) = v2) ∧ ((v3 : Int) = 4)) := by omega
theorem om_7c956b6eeb06 {v0 v1 v2 : Int} (h0 : (v0 : Int) = v1) (h1 : (v1 : Int) = (v2 + 1)) : (v2 : Int) ≤ v0 := by omega
theorem om_7cc45f899fc2 {v0 v2 v3 v4 v5 : Int} {v1 : Nat} (h0 : (0 : Int) ≤ v0) (h1 : (((v1 : Nat) : Int) : Int) = v2) (h2 : (v3 : Int) = (8 * v2)) (h3 : (v4 : Int) = (v3 + v0)) (h4 : (v5 : Int) = (24 * v4)) : (0 : Int) ≤ v5 := by omega
theorem om_7ce47a8bf66a {v0 : Int} (h0 : (v0 : Int) = 12) (h1 : (v0 : Int) ≠ 12) : False := by omega
theorem om_7ce5d8ac6511 {v0 v1 : Int} (h0 : (0 : Int) ≤ v0) (h1 : (v0 : Int) < 960) (h2 : (v1 : Int) = (v0 + 1)) : (((0 : Int) ≤ v1) ∧ ((v1 : Int) ≤ 960)) := by omega
theorem om_7cea0f6c0c4a {v0 v1 v2 v3 v4 : Int} (h0 : (v0 : Int) ≤ 4000) (h1 : (0 : Int) ≤ v1) (h2 : (v1 : Int) ≤ v2) (h3 : (v3 : Int) < v0) (h4 : (v4 : Int) = (v3 - v2)) (h5 : (9 : Int) < v4) : ((((-2147483648) : Int) ≤ (v1 + 1)) ∧ (((v1 + 1) : Int) ≤ 2147483647)) := by omega
theorem om_7ceae82653b4 {v0 v1 : Int} {v2 : Nat} (h0 : (v0 : Int) = (v1 * 2)) (h1 : (v1 : Int) = ((v2 : Nat) : Int)) : (v0 : Int) = (2 * ((v2 : Nat) : Int)) := by omega
theorem om_7cfca28772a4 {v0 : Int} (h0 : (0 : Int) ≤ v0) (h1 : (v0 : Int) < 1000000) : ((((-2147483648) : Int) ≤ (v0 + 1)) ∧ (((v0 + 1) : Int) ≤ 2147483647)) := by omega
theorem om_7d452ad704e8 {v0 v3 : Int} {v1 v2 : Nat} (h0 : ((v0 + ((v1 : Nat) : Int)) : Int) ≤ ((v2 : Nat) : Int)) (h1 : (v3 : Int) = (v0 + 0)) : ((v3 + ((v1 : Nat) : Int)) : Int) ≤ ((v2 : Nat) : Int) := by omega
theorem om_7d932fd557a6 {v0 : Int} (h0 : (0 : Int) ≤ v0) (h1 : (v0 : Int) ≤ 9) : ((((-2147483648) : Int) ≤ (v0 + 1)) ∧ (((v0 + 1) : Int) ≤ 2147483647)) := by omega
theorem om_7db83f8675f4 {v0 : Int} {v1 v2 : Nat} (h0 : ((10 - v0) : Int) ≤ ((v1 : Nat) : Int)) (h1 : (v0 : Int) ≤ 10) : (((8 + (2 + 11)) + 0) : Nat) ≤ (((100 * v2) + (1000 * v1)) + 560) := by omega
theorem om_7dcbc42c1fac {v0 : Int} {v1 : Nat} (h0 : (v0 : Int) ≤ 1) (h1 : (((v1 : Nat) : Int) : Int) = v0) : (((10000 * ((v1 : Nat) : Int)) + 10000) : Int) ≤ 20000 := by omega
theorem om_7de1662b5bb9 {v0 : Int} {v1 v2 : Nat} (h0 : (0 : Int) < v0) (h1 : (((v1 : Nat) : Int) : Int) = v0) : ((12 * v2) : Nat) ≤ ((12 * v2) + v1) := by omega
theorem om_7e0a6aec7ca5 {v0 : Int} (h0 : (v0 : Int) = 1) : (0 : Int) ≤ v0 := by omega
theorem om_7e29444b50cd {v0 : Nat} : (((8 + (4 + 11)) + 0) : Nat) ≤ ((300 * v0) + 420) := by omega
theorem om_7e2c0121d284 {v0 v1 v2 v3 : Int} (h0 : (v0 : Int) ≤ 24) (h1 : (v1 : Int) = v0) (h2 : (0 : Int) ≤ v2) (h3 : (v2 : Int) ≤ v3) (h4 : (v3 : Int) < v1) : (((0 : Int) ≤ v2) ∧ ((v2 : Int) ≤ 24)) := by omega
theorem om_7e7dd3a43436 {v0 : Int} (h0 : (v0 : Int) = 60) (h1 : (v0 : Int) ≠ 60) : False := by omega
theorem om_7e8ec362a821 {v0 : Nat} : ((((10 * v0) + 7) + 1) : Nat) ≤ ((10 * v0) + 8) := by omega
theorem om_7ea21d029263 {v0 v1 v2 v3 : Int} (h0 : (0 : Int) ≤ v0) (h1 : (0 : Int) ≤ v1) (h2 : (v2 : Int) = (12 * v1)) (h3 : (v3 : Int) = (v2 + v0)) : (0 : Int) ≤ v3 := by omega
theorem om_7ed1cb9eefb0 {v0 v1 : Int} (h0 : (v0 : Int) ≤ 8200) (h1 : (v1 : Int) = v0) : (v1 : Int) ≤ 8200 := by omega
theorem om_7f0a731553a4 {v0 : Int} {v1 : Nat} (h0 : (v0 : Int) ≤ 23) (h1 : (v0 : Int) = ((v1 : Nat) : Int)) : ((((-2147483648) : Int) ≤ (8 * v0)) ∧ (((8 * v0) : Int) ≤ 2147483647)) := by omega
theorem om_7f4f78fac172 {v0 v1 : Int} (h0 : (v0 : Int) < 12) (h1 : (v1 : Int) ≤ v0) (h2 : (0 : Int) < v1) : ((((-2147483648) : Int) ≤ (v1 - 1)) ∧ (((v1 - 1) : Int) ≤ 2147483647)) := by omega
theorem om_7f8c846ea616 {v0 : Nat} (h0 : (v0 : Nat) < 24) : (((16 + (5 * v0)) + 1) : Nat) ≤ 148 := by omega
theorem om_7fa199aab32e {v0 v1 v2 : Int} (h0 : (v0 : Int) = v1) (h1 : (v2 : Int) = (v0 + 1)) : (v1 : Int) ≤ v2 := by omega
theorem om_7fa97002a128 {v0 v1 : Int} {v2 : Nat} (h0 : (v0 : Int) = (v1 + ((v2 : Nat) : Int))) : (v0 : Int) = (v1 + ((v2 : Nat) : Int)) := by omega
theorem om_7fe9249fc074 {v0 v1 v2 : Int} (h0 : (v0 : Int) < v1) (h1 : (v2 : Int) = (v0 + 1)) : (v2 : Int) ≤ v1 := by omega
theorem om_8011ca81eb0d {v0 : Int} (h0 : (0 : Int) ≤ v0) (h1 : (v0 : Int) ≤ 24) (h2 : (v0 : Int) ≠ 0) : ((((-2147483648) : Int) ≤ (v0 + (-1))) ∧ (((v0 + (-1)) : Int) ≤ 2147483647)) := by omega
theorem om_8014749f7565 {v0 : Int} {v1 : Nat} (h0 : (v0 : Int) ≤ 7) (h1 : ((7 - v0) : Int) ≤ ((v1 : Nat) : Int)) : (((8 + (3 + 11)) + 44) : Nat) ≤ ((300 * v1) + 290) := by omega
theorem om_801a3cd4bc94 {v0 v1 v2 : Int} (h0 : (0 : Int) ≤ v0) (h1 : (v0 : Int) < v1) (h2 : (v1 : Int) ≤ 40) (h3 : (v2 : Int) = (v1 - 1)) : (((0 : Int) ≤ v2) ∧ ((v2 : Int) ≤ 39)) := by omega
theorem om_803d1b3fda03 {v0 v1 : Int} (h0 : (v0 : Int) = 125) (h1 : (v1 : Int) = v0) : (v1 : Int) ≠ 0 := by omega
theorem om_806ced63e85c {v0 v1 : Int} (h0 : (v0 : Int) = 0) (h1 : (v1 : Int) = v0) : ((v1 + (400 * 10)) : Int) ≤ 19000 := by omega
theorem om_808983945c2d {v0 v1 v2 : Int} (h0 : (v0 : Int) ≤ (8049 - (6 * v1))) (h1 : (v2 : Int) = v0) : (v2 : Int) ≤ (8049 - (6 * v1)) := by omega
theorem om_80a563804c51 {v0 v1 v2 : Int} (h0 : (v0 : Int) ≤ 300) (h1 : (0 : Int) ≤ v1) (h2 : (v1 : Int) ≤ v0) (h3 : (v2 : Int) = v1) : (((0 : Int) ≤ v2) ∧ ((v2 : Int) ≤ 300)) := by omega
theorem om_80cb0e5086d2 {v0 v2 v4 v5 : Int} {v1 v3 : Nat} (h0 : (v0 : Int) = ((v1 : Nat) : Int)) (h1 : (v1 : Nat) ≤ 24) (h2 : (v2 : Int) = ((v3 : Nat) : Int)) (h3 : (v2 : Int) ≤ v4) (h4 : (v4 : Int) < v0) (h5 : (v5 : Int) = (v4 + 1)) : (((0 : Int) ≤ v5) ∧ ((v5 : Int) ≤ 24)) := by omega
theorem om_80d5176ec034 {v0 v1 v2 v3 : Int} (h0 : (v0 : Int) ≤ 4000) (h1 : (0 : Int) ≤ v1) (h2 : (v2 : Int) < v0) (h3 : (v3 : Int) = (v2 - v1)) (h4 : (9 : Int) ≤ v3) : ((((-2147483648) : Int) ≤ (v2 + 1)) ∧ (((v2 + 1) : Int) ≤ 2147483647)) := by omega
theorem om_80d701c7d15f {v0 v1 : Int} (h0 : (v0 : Int) ≤ 24) (h1 : (0 : Int) ≤ v1) (h2 : (v1 : Int) < v0) : ((((-1) : Int) ≤ v1) ∧ ((v1 : Int) ≤ 47)) := by omega
theorem om_80d93412bfaf {v0 v1 v2 : Int} (h0 : (0 : Int) ≤ v0) (h1 : (v1 : Int) = (v2 - v0)) (h2 : (12 : Int) ≤ v1) : (0 : Int) ≤ v2 := by omega
theorem om_810da67e2db8 {v0 v1 v2 v3 v4 v5 v6 v7 : Int} (h0 : (v0 : Int) ≤ v1) (h1 : ((v2 - v0) : Int) ≤ (v3 - v1)) (h2 : (v4 : Int) = v2) (h3 : (v5 : Int) = v3) (h4 : ((v6 - v4) : Int) ≤ (v7 - v5)) (h5 : (v7 : Int) ≤ 300) (h6 : (0 : Int) ≤ v6) : (((0 : Int) ≤ v6) ∧ ((v6 : Int) ≤ 300)) := by omega
theorem om_814c82eb030f {v0 v1 v2 v3 : Int} (h0 : (v0 : Int) ≤ v1) (h1 : (v2 : Int) = (v1 + 1)) (h2 : (v3 : Int) = (v0 + 1)) : (v3 : Int) ≤ v2 := by omega
theorem om_818b8312b926 {v0 : Nat} (h0 : (v0 : Nat) < 12) : ((((136 + (1 * v0)) + 1) + 0) : Nat) ≤ 148 := by omega
theorem om_818fd866bb1a {v0 v2 v3 v4 v5 v6 : Int} {v1 : Nat} (h0 : (v0 : Int) = ((v1 : Nat) : Int)) (h1 : (v1 : Nat) ≤ 24) (h2 : (v2 : Int) = v0) (h3 : (v3 : Int) < v2) (h4 : (v4 : Int) ≤ ((8 * v3) + v5)) (h5 : (v6 : Int) ≤ 8) (h6 : (v5 : Int) < v6) : (v4 : Int) ≤ 999999 := by omega
theorem om_8190647da377 {v0 : Nat} : (((8 + (2 + 11)) + ((300 * v0) + 340)) : Nat) ≤ ((300 * v0) + 380) := by omega
theorem om_81d3c60f550f {v0 : Nat} : (((8 + (3 + 11)) + 21) : Nat) ≤ ((300 * v0) + 340) := by omega
theorem om_823ed67989f9 {v0 v1 : Int} (h0 : (v0 : Int) = (v1 - 1)) : (v0 : Int) < v1 := by omega
theorem om_824ad23a25cf {v0 : Int} (h0 : (v0 : Int) = 1) (h1 : (v0 : Int) = 13) : False := by omega
theorem om_827712d37f0f {v0 : Int} (h0 : (0 : Int) ≤ v0) (h1 : (v0 : Int) ≤ 8200) : (((0 : Int) ≤ v0) ∧ ((v0 : Int) ≤ 8200)) := by omega
theorem om_82cde3e164be {v0 v1 v2 : Int} (h0 : (0 : Int) ≤ v0) (h1 : (v1 : Int) = (v2 - v0)) (h2 : (9 : Int) ≤ v1) : (0 : Int) ≤ v2 := by omega
theorem om_82d7566284b9 {v0 v1 v2 v3 v4 : Int} (h0 : (0 : Int) ≤ v0) (h1 : (v1 : Int) = (v0 + 1)) (h2 : (v2 : Int) = v1) (h3 : (v3 : Int) = v2) (h4 : (v3 : Int) ≤ 9) (h5 : (v4 : Int) = (v3 - 1)) : (((0 : Int) ≤ v4) ∧ ((v4 : Int) ≤ 9)) := by omega
theorem om_8305e47bdc88 {v0 : Int} (h0 : ((-1) : Int) ≤ v0) (h1 : (v0 : Int) ≤ 39) (h2 : (v0 : Int) ≠ (-1)) : (((0 : Int) ≤ v0) ∧ ((v0 : Int) ≤ 39)) := by omega
theorem om_8316563473ae {v0 : Int} {v1 : Nat} (h0 : (v0 : Int) ≤ 299) (h1 : (v0 : Int) = ((v1 : Nat) : Int)) : (((0 : Int) ≤ v0) ∧ ((v0 : Int) ≤ 299)) := by omega
theorem om_832f54b1025d {v0 v2 v3 v4 v5 v6 v7 : Int} {v1 : Nat} (h0 : ((300 - v0) : Int) ≤ ((v1 : Nat) : Int)) (h1 : ((v2 - v3) : Int) ≤ (v4 - v0)) (h2 : ((v5 - v6) : Int) ≤ (v2 - v3)) (h3 : (v6 : Int) < v5) (h4 : (v7 : Int) = v4) : ((300 - v7) : Int) ≤ ((v1 : Nat) : Int) := by omega
theorem om_838988081b2f {v0 v2 : Int} {v1 : Nat} (h0 : ((v0 + (400 * ((v1 : Nat) : Int))) : Int) ≤ 19000) (h1 : (v2 : Int) = v0) : ((v2 + (400 * ((v1 : Nat) : Int))) : Int) ≤ 19000 := by omega
theorem om_83a6a9035f51 {v0 : Int} {v1 : Nat} (h0 : (v0 : Int) = ((v1 : Nat) : Int)) (h1 : (v0 : Int) < 0) : False := by omega
theorem om_83ca219491b2 {v0 v1 : Int} (h0 : (0 : Int) ≤ v0) (h1 : (v0 : Int) < 60000) (h2 : (v1 : Int) = (v0 + 1)) : (((0 : Int) ≤ v1) ∧ ((v1 : Int) ≤ 60000)) := by omega
theorem om_83f5e4ef2f8c {v0 v1 : Int} (h0 : (v0 : Int) ≤ 0) (h1 : (0 : Int) ≤ v1) (h2 : (v1 : Int) ≤ v0) : (((0 : Int) ≤ v1) ∧ ((v1 : Int) ≤ 32)) := by omega
theorem om_842ee80c0797 {v0 v1 v2 v3 : Int} (h0 : (v0 : Int) ≤ v1) (h1 : (v2 : Int) = v0) (h2 : (v3 : Int) = v1) : (v2 : Int) ≤ v3 := by omega
theorem om_843ad58ddfba {v0 v1 v2 : Nat} (h0 : (v0 : Nat) = v1) (h1 : (v2 : Nat) = (v1 + 1)) : (v0 : Nat) < v2 := by omega
theorem om_844449b06c38 {v0 v1 v2 : Int} (h0 : (v0 : Int) = 0) (h1 : (v1 : Int) = 0) (h2 : (v2 : Int) = v1) : (v2 : Int) = v0 := by omega
theorem om_8462061eeb19 {v0 : Int} (h0 : (v0 : Int) ≤ 8120) : (v0 : Int) ≤ 8120 := by omega
theorem om_846a176f29bf {v0 v1 : Int} (h0 : (v0 : Int) < 8) (h1 : (v1 : Int) = v0) : (v1 : Int) < 8 := by omega
theorem om_8481c093d86b {v0 : Int} (h0 : (v0 : Int) = 12) (h1 : (v0 : Int) = 0) : False := by omega
theorem om_84b3fe0a5662 {v0 : Int} (h0 : (148 : Int) ≤ v0) (h1 : (v0 : Int) ≤ 151) : ((((-2147483648) : Int) ≤ (v0 - 148)) ∧ (((v0 - 148) : Int) ≤ 2147483647)) := by omega
theorem om_84b6f8c0cf39 : (0 : Int) ≤ 0 := by omega
theorem om_850282deb1e6 {v0 v1 v2 v3 v4 v5 v6 v7 v8 v9 v10 v11 : Int} (h0 : (v0 : Int) = v1) (h1 : (v2 : Int) = v3) (h2 : (v4 : Int) = v5) (h3 : (((v6 + v7) - v8) : Int) ≤ ((v4 + v2) - v0)) (h4 : (v9 : Int) = v8) (h5 : (v10 : Int) = v6) (h6 : (v11 : Int) = v7) : (((v10 + v11) - v9) : Int) ≤ ((v5 + v3) - v1) := by omega
theorem om_851a31618d2d {v0 : Int} (h0 : (v0 : Int) ≤ 23) : (v0 : Int) ≤ 23 := by omega
theorem om_851efeff3e20 {v0 : Int} (h0 : (v0 : Int) = 15) (h1 : (v0 : Int) = 13) : False := by omega
theorem om_8528d9817997 {v0 v1 v2 v3 : Int} {v4 : Nat} (h0 : (0 : Int) ≤ v0) (h1 : (v1 : Int) = v2) (h2 : ((v0 + 1) : Int) ≤ v2) (h3 : (v3 : Int) ≤ ((v4 : Nat) : Int)) (h4 : ((v1 + 1) : Int) ≤ v3) : (((0 : Int) ≤ v3) ∧ ((v3 : Int) ≤ ((v4 : Nat) : Int))) := by omega
theorem om_85296d547285 {v0 : Int} (h0 : (0 : Int) ≤ v0) (h1 : (v0 : Int) = 0) : (((0 : Int) ≤ v0) ∧ ((v0 : Int) ≤ 1)) := by omega
theorem om_852b8a7c9dfa {v0 : Int} {v1 v2 : Nat} (h0 : ((300 - v0) : Int) ≤ ((v1 : Nat) : Int)) (h1 : (v0 : Int) ≤ 300) : (((8 + (2 + 11)) + 0) : Nat) ≤ (((100 * v1) + (1000 * v2)) + 500) := by omega
theorem om_854801964c9c {v0 v1 v2 v3 v4 v5 : Int} (h0 : (v0 : Int) ≤ v1) (h1 : ((v2 - v0) : Int) ≤ (v3 - v1)) (h2 : (v4 : Int) = v3) (h3 : (v5 : Int) = v2) : (v5 : Int) ≤ v4 := by omega
theorem om_85525124a780 {v0 v1 : Int} (h0 : (v0 : Int) = 8) (h1 : (v1 : Int) = (v0 + 1)) : (((0 : Int) ≤ v1) ∧ ((v1 : Int) ≤ 9)) := by omega
theorem om_8556a2d42616 {v1 v2 v3 : Int} {v0 : Nat} (h0 : (((v0 : Nat) : Int) : Int) = (1 - v1)) (h1 : (v2 : Int) = (1 - v1)) (h2 : (v3 : Int) = v2) : (((v0 : Nat) : Int) : Int) = v3 := by omega
theorem om_8588804ef24d {v0 : Int} (h0 : (v0 : Int) ≤ 39) (h1 : (0 : Int) ≤ v0) : (((0 : Int) ≤ v0) ∧ ((v0 : Int) ≤ 39)) := by omega
theorem om_85aa1aec5418 {v0 : Int} {v1 v2 : Nat} (h0 : (v0 : Int) ≤ 11) (h1 : (((v1 : Nat) : Int) : Int) = v0) : (((12 * v2) + v1) : Nat) < ((12 * v2) + 12) := by omega
theorem om_85baa6bcbf4d {v0 v1 : Int} (h0 : (v0 : Int) = 0) : ((v1 + v0) : Int) = v1 := by omega
theorem om_85e70de82a4a {v0 v3 v4 : Int} {v1 v2 : Nat} (h0 : (v0 : Int) ≤ 47) (h1 : (v0 : Int) = ((v1 : Nat) : Int)) (h2 : ((24 * v2) : Nat) ≤ v1) (h3 : ((-1) : Int) ≤ v3) (h4 : (v3 : Int) ≤ 19) (h5 : (v4 : Int) = (20 * v0)) : ((((-2147483648) : Int) ≤ (v4 + v3)) ∧ (((v4 + v3) : Int) ≤ 2147483647)) := by omega
theorem om_860317e29598 {v0 v1 v2 v3 : Int} (h0 : (v0 : Int) ≤ v1) (h1 : (v2 : Int) = v1) (h2 : (v2 : Int) ≤ v3) : (v0 : Int) ≤ v3 := by omega
theorem om_8605842351a6 {v0 : Int} (h0 : (v0 : Int) = 5) : (v0 : Int) ≠ 3 := by omega
theorem om_861e52f2ea16 {v0 v2 : Int} {v1 v3 : Nat} (h0 : ((v0 + (192 * ((v1 : Nat) : Int))) : Int) ≤ 4800) (h1 : ((v2 + (192 * ((v3 : Nat) : Int))) : Int) ≤ (v0 + (192 * ((v1 : Nat) : Int)))) : ((v2 + (192 * ((v3 : Nat) : Int))) : Int) ≤ 4800 := by omega
theorem om_8644478ce7aa {v0 v1 : Int} (h0 : (v0 : Int) ≤ 12) (h1 : (v1 : Int) ≤ (v0 - 1)) (h2 : (0 : Int) ≤ v1) : ((((-2147483648) : Int) ≤ (v1 + (-1))) ∧ (((v1 + (-1)) : Int) ≤ 2147483647)) := by omega
theorem om_8673f16bd2c3 {v0 v1 v2 : Int} (h0 : (0 : Int) ≤ v0) (h1 : (v1 : Int) ≤ 23) (h2 : (v0 : Int) ≤ v2) (h3 : (v2 : Int) ≤ v1) : ((((-2147483648) : Int) ≤ (v2 + 1)) ∧ (((v2 + 1) : Int) ≤ 2147483647)) := by omega
theorem om_86dadfc080ad {v0 v1 v2 v3 v4 v5 v6 v7 v8 v9 : Int} (h0 : (v0 : Int) = v1) (h1 : (v2 : Int) = v3) (h2 : ((v4 - v0) : Int) ≤ (v5 - v2)) (h3 : (v6 : Int) = v5) (h4 : (v7 : Int) = v4) (h5 : ((v8 - v7) : Int) ≤ (v9 - v6)) : ((v8 - v1) : Int) ≤ (v9 - v3) := by omega
theorem om_87164e47f4a6 {v0 v1 v2 v3 v4 : Int} (h0 : (v0 : Int) = v1) (h1 : (v0 : Int) ≤ v2) (h2 : (v3 : Int) = v2) (h3 : (v3 : Int) ≤ v4) : (v1 : Int) ≤ v4 := by omega
theorem om_872d4b6e7e86 {v0 v1 v2 v3 v4 v5 v6 v7 v8 v9 v10 v11 : Int} (h0 : (((v0 - v1) - v2) : Int) ≤ ((v3 - v4) - v5)) (h1 : (v6 : Int) = (v0 + 1)) (h2 : (v7 : Int) = v2) (h3 : (v8 : Int) = v1) (h4 : (((v9 - v10) - v11) : Int) ≤ ((v6 - v8) - v7)) : (((v9 - v10) - v11) : Int) ≤ (((v3 - v4) - v5) + 1) := by omega
theorem om_873519b16705 {v0 v1 : Int} (h0 : (v0 : Int) ≤ 20000) (h1 : (v1 : Int) = (v0 - 1)) : (v1 : Int) ≤ 19999 := by omega
theorem om_875f8b1f1696 {v0 : Int} (h0 : (0 : Int) ≤ v0) (h1 : (v0 : Int) ≤ 6) (h2 : (v0 : Int) ≠ 6) : ((((-2147483648) : Int) ≤ (v0 + 1)) ∧ (((v0 + 1) : Int) ≤ 2147483647)) := by omega
theorem om_876140fa99b5 {v0 : Int} (h0 : (0 : Int) ≤ v0) (h1 : (v0 : Int) ≤ 300) (h2 : (v0 : Int) ≠ 300) : ((((-2147483648) : Int) ≤ (v0 + 1)) ∧ (((v0 + 1) : Int) ≤ 2147483647)) := by omega
theorem om_87949503a0dc {v0 : Int} (h0 : (v0 : Int) = 10) : (v0 : Int) ≠ 3 := by omega
theorem om_879737cb5899 {v0 v1 v2 v3 v4 v5 : Int} (h0 : (((v0 - v1) - v2) : Int) ≤ 900000000) (h1 : (v1 : Int) ≤ 3000) (h2 : (v3 : Int) = 0) (h3 : (v4 : Int) = v2) (h4 : (v5 : Int) = v0) : (((v5 - v3) - v4) : Int) ≤ 1000000000 := by omega
theorem om_87c918ea739a {v0 : Int} (h0 : (v0 : Int) = 10) (h1 : (v0 : Int) = 0) : False := by omega
theorem om_87d12ca50388 {v0 : Nat} : (((8 + (4 + 11)) + 0) : Nat) ≤ ((300 * v0) + 380) := by omega
theorem om_87d3ed629c23 {v2 v3 : Int} {v0 v1 : Nat} (h0 : (v0 : Nat) ≤ 24) (h1 : (((v1 : Nat) : Int) : Int) = v2) (h2 : (v1 : Nat) < v0) (h3 : (v3 : Int) = (v2 + 1)) : (((0 : Int) ≤ v3) ∧ ((v3 : Int) ≤ 24)) := by omega
theorem om_87dbc9f88bc5 {v1 v3 : Int} {v0 v2 : Nat} (h0 : (((v0 : Nat) : Int) : Int) = v1) (h1 : (v0 : Nat) < v2) (h2 : (v3 : Int) = (v1 + 1)) : (v3 : Int) ≤ ((v2 : Nat) : Int) := by omega
theorem om_87fa92eb9f41 {v1 v2 : Int} {v0 : Nat} (h0 : (((v0 : Nat) : Int) : Int) ≤ ((28 * v1) + 26)) (h1 : (v2 : Int) = v1) (h2 : (v2 : Int) ≤ 10) : (v0 : Nat) ≤ 394 := by omega
theorem om_8809abba85b8 {v0 : Int} (h0 : ((-1) : Int) ≤ v0) (h1 : (v0 : Int) = (-1)) : (v0 : Int) = (-1) := by omega
theorem om_8840667578a5 {v0 v1 : Int} (h0 : (v0 : Int) ≤ 24) (h1 : (0 : Int) ≤ v1) (h2 : (v1 : Int) < v0) : (((0 : Int) ≤ v1) ∧ ((v1 : Int) ≤ 23)) := by omega
theorem om_88636b9769c4 {v0 : Nat} : ((1 + 1) : Nat) ≤ ((10 * v0) + 15) := by omega
theorem om_892008aa65e1 {v0 v1 v2 : Int} (h0 : (v0 : Int) ≤ (v1 - 1)) (h1 : (v2 : Int) = (v0 + (-1))) : (v2 : Int) ≤ (v1 - 1) := by omega
theorem om_896e2f636ed1 {v1 v3 : Int} {v0 v2 v4 : Nat} (h0 : (v0 : Nat) < 2) (h1 : (v1 : Int) ≤ ((v2 : Nat) : Int)) (h2 : (v2 : Nat) = 24) (h3 : (v3 : Int) < v1) (h4 : (((v4 : Nat) : Int) : Int) = v3) : (((24 * v0) + v4) : Nat) < 48 := by omega
theorem om_89d974c8c1eb {v0 v1 v2 : Int} (h0 : (v0 : Int) ≤ 8) (h1 : (v1 : Int) ≤ (v2 + v0)) : (v1 : Int) ≤ (v2 + 8) := by omega
theorem om_89f40265ce09 {v1 v2 v3 : Int} {v0 : Nat} (h0 : (((v0 : Nat) : Int) : Int) ≤ ((28 * v1) + 26)) (h1 : (v2 : Int) = v1) (h2 : (v3 : Int) = v2) : (((v0 : Nat) : Int) : Int) ≤ ((28 * v3) + 26) := by omega
theorem om_89f771ec639b {v0 v1 v2 v3 : Int} (h0 : (0 : Int) ≤ v0) (h1 : (v1 : Int) = (24 * v0)) (h2 : (0 : Int) ≤ v2) (h3 : (v3 : Int) = (v1 + v2)) : (0 : Int) ≤ v3 := by omega
theorem om_89fadfb637be {v0 v1 v2 v3 : Int} (h0 : (v0 : Int) ≤ 4000) (h1 : (0 : Int) ≤ v1) (h2 : ((v1 + v2) : Int) = v3) (h3 : (v3 : Int) < v0) (h4 : (12 : Int) ≤ v2) : ((((-2147483648) : Int) ≤ (v2 + 1)) ∧ (((v2 + 1) : Int) ≤ 2147483647)) := by omega
theorem om_8a0dcf576dcd {v0 : Int} (h0 : (0 : Int) ≤ v0) (h1 : (v0 : Int) < 16777216) : (((0 : Int) ≤ v0) ∧ ((v0 : Int) ≤ 16777215)) := by omega
theorem om_8a3bb01c6349 {v0 v1 v2 : Int} (h0 : (v0 : Int) = (v1 + 1)) (h1 : (v2 : Int) = v0) : (v1 : Int) < v2 := by omega
theorem om_8a49c059df01 {v0 : Int} (h0 : (v0 : Int) = 0) : (((0 : Int) ≤ v0) ∧ ((v0 : Int) ≤ 9)) := by omega
theorem om_8a6183599dcf {v0 v2 : Int} {v1 : Nat} (h0 : ((340 - v0) : Int) < ((v1 : Nat) : Int)) (h1 : (v2 : Int) = (v0 + 1)) : ((340 - v2) : Int) < ((v1 : Nat) : Int) := by omega
theorem om_8a67e4e7e7f4 {v0 v1 v2 v3 v4 v5 : Int} {v6 : Nat} (h0 : (0 : Int) ≤ v0) (h1 : (v1 : Int) = v2) (h2 : (v3 : Int) = v4) (h3 : ((v1 + 1) : Int) ≤ v5) (h4 : (v4 : Int) ≤ ((v6 : Nat) : Int)) (h5 : ((v5 + 1) : Int) ≤ v4) (h6 : ((v0 + 1) : Int) ≤ v2) : (((0 : Int) ≤ v3) ∧ ((v3 : Int) ≤ ((v6 : Nat) : Int))) := by omega
theorem om_8a7a47e90f89 {v0 : Int} (h0 : (0 : Int) ≤ v0) (h1 : (v0 : Int) < 400) : ((((-2147483648) : Int) ≤ (v0 + 1)) ∧ (((v0 + 1) : Int) ≤ 2147483647)) := by omega
theorem om_8a91362a6d8c {v0 : Int} (h0 : (v0 : Int) = 2) (h1 : (v0 : Int) = 3) : False := by omega
theorem om_8af120267f01 {v0 v1 : Nat} (h0 : (v0 : Nat) < ((24 * v1) + 24)) : (v0 : Nat) < ((24 * v1) + 24) := by omega
theorem om_8afc3d38cc82 {v0 v1 v2 v3 : Nat} (h0 : ((((v0 : Nat) : Int) + 1) : Int) ≤ ((v1 : Nat) : Int)) (h1 : (v2 : Nat) = v0) (h2 : ((((v3 : Nat) : Int) + 1) : Int) ≤ ((v2 : Nat) : Int)) : ((((v3 : Nat) : Int) + 1) : Int) ≤ ((v1 : Nat) : Int) := by omega
theorem om_8b199089418a {v0 : Int} {v1 : Nat} (h0 : (v0 : Int) ≤ 395) (h1 : (v0 : Int) = (((v1 + 1) : Nat) : Int)) : (v1 : Nat) ≤ 394 := by omega
theorem om_8b407315c948 {v0 : Int} {v1 v2 : Nat} (h0 : ((10 - v0) : Int) ≤ ((v1 : Nat) : Int)) (h1 : (v0 : Int) ≤ 10) : ((1 + 1) : Nat) ≤ (((4 * v2) + (40 * v1)) + 13) := by omega
theorem om_8b6d7bd4811d {v0 v1 v2 : Int} (h0 : (0 : Int) ≤ v0) (h1 : ((v0 + v1) : Int) = v2) (h2 : (12 : Int) < v1) : (0 : Int) ≤ v2 := by omega
theorem om_8b7ab85c46a8 {v0 : Int} (h0 : (v0 : Int) = 43) : (v0 : Int) ≠ 0 := by omega
theorem om_8bbe8fa9f5bb {v0 : Int} (h0 : (v0 : Int) = 11) (h1 : (v0 : Int) = 15) : False := by omega
theorem om_8bbea558cb2a {v0 : Int} (h0 : (v0 : Int) ≤ 8) (h1 : (0 : Int) ≤ v0) : ((((-2147483648) : Int) ≤ (v0 + 1)) ∧ (((v0 + 1) : Int) ≤ 2147483647)) := by omega
theorem om_8bedd7f35e90 {v0 v1 : Int} (h0 : (0 : Int) < v0) (h1 : (v1 : Int) = (v0 + (-1))) : (0 : Int) ≤ v1 := by omega
theorem om_8bf143588751 {v0 : Int} (h0 : (v0 : Int) = 136) : (v0 : Int) = 136 := by omega
theorem om_8c0cdc7815a9 {v0 v1 v2 v3 v4 v5 v6 v7 : Int} (h0 : (((v0 + v1) - v2) : Int) ≤ ((v3 + v4) - v5)) (h1 : (v3 : Int) ≤ v0) (h2 : (v4 : Int) < v1) (h3 : (v6 : Int) = v2) (h4 : (v6 : Int) ≤ v7) : (v5 : Int) ≤ v7 := by omega
theorem om_8c1f0c75cf3f {v0 v1 : Int} (h0 : (v0 : Int) = 134) (h1 : (v1 : Int) = v0) : (v1 : Int) ≠ 0 := by omega
theorem om_8c285ac91b81 {v0 : Int} (h0 : (0 : Int) ≤ v0) (h1 : (v0 : Int) ≤ 2) : (((0 : Int) ≤ v0) ∧ ((v0 : Int) ≤ 2)) := by omega
theorem om_8c3c40c3e21c {v0 v1 : Nat} : (((((404 + (1422 - v0)) + v1) + 1) + 0) : Nat) ≤ ((404 + (1422 - v0)) + (v1 + 1)) := by omega
theorem om_8c418866e13b {v1 v2 : Int} {v0 : Nat} (h0 : (((v0 : Nat) : Int) : Int) = v1) (h1 : (v2 : Int) = (10000 * ((v0 : Nat) : Int))) (h2 : (0 : Int) ≤ v1) (h3 : (v2 : Int) ≤ 10000) : ((((-2147483648) : Int) ≤ (12 * v1)) ∧ (((12 * v1) : Int) ≤ 2147483647)) := by omega
theorem om_8c5a66363f6c {v0 v1 v2 v3 v4 v5 v6 v7 v8 v9 : Int} (h0 : (v0 : Int) = v1) (h1 : (v2 : Int) = v3) (h2 : (((v4 + v5) - v6) : Int) ≤ ((v2 + v7) - v0)) (h3 : (v5 : Int) = v7) (h4 : (v8 : Int) = v6) (h5 : (v9 : Int) = v4) : ((v9 - v8) : Int) ≤ ((v3 - v1) + 300) := by omega
theorem om_8c842566bb12 {v0 v1 v2 v3 v4 v5 v6 : Int} (h0 : (0 : Int) ≤ v0) (h1 : (v0 : Int) ≤ 23) (h2 : (0 : Int) ≤ v1) (h3 : (v1 : Int) ≤ 7) (h4 : (0 : Int) ≤ v2) (h5 : (v2 : Int) ≤ 1) (h6 : (v3 : Int) = (24 * v2)) (h7 : (v4 : Int) = (v3 + v0)) (h8 : (v5 : Int) = (8 * v4)) (h9 : (v6 : Int) = (v5 + v1)) : (((0 : Int) ≤ v6) ∧ ((v6 : Int) ≤ 383)) := by omega
theorem om_8c87f7281688 {v0 : Int} {v1 : Nat} (h0 : (v0 : Int) = (((v1 : Nat) : Int) + 1)) : (0 : Int) ≤ v0 := by omega
theorem om_8ca935217318 {v0 : Int} (h0 : (1 : Int) ≤ v0) (h1 : (v0 : Int) ≤ 400) : ((((-2147483648) : Int) ≤ (v0 - 1)) ∧ (((v0 - 1) : Int) ≤ 2147483647)) := by omega
theorem om_8d33b021ea99 {v0 : Int} (h0 : (v0 : Int) = 3) : (v0 : Int) = ((3 : Nat) : Int) := by omega
theorem om_8d693bb2cae6 {v0 v1 v2 v3 : Int} (h0 : (0 : Int) ≤ v0) (h1 : (v0 : Int) ≤ v1) (h2 : (v2 : Int) ≤ 300) (h3 : (v1 : Int) < v2) (h4 : (v3 : Int) = (v1 + 1)) : (((0 : Int) ≤ v3) ∧ ((v3 : Int) ≤ 300)) := by omega
theorem om_8d7445b480e1 {v0 v2 : Int} {v1 : Nat} (h0 : ((v0 + ((v1 : Nat) : Int)) : Int) = 8) (h1 : (0 : Int) ≤ v0) (h2 : (v2 : Int) = (v0 + 1)) : (((0 : Int) ≤ v2) ∧ ((v2 : Int) ≤ 9)) := by omega
theorem om_8d93cc042622 {v0 v1 v2 v3 : Int} (h0 : (v0 : Int) ≤ 340) (h1 : (v1 : Int) ≤ (v2 + v0)) (h2 : (v3 : Int) = v1) : (v3 : Int) ≤ (v2 + 340) := by omega
theorem om_8da659b97699 {v0 : Int} (h0 : (0 : Int) ≤ v0) (h1 : (v0 : Int) ≤ 7) : (((0 : Int) ≤ v0) ∧ ((v0 : Int) ≤ 7)) := by omega
theorem om_8db84fa33bad {v0 : Int} (h0 : (v0 : Int) ≤ 2) (h1 : (v0 : Int) = 2) (h2 : (v0 : Int) ≠ 2) : False := by omega
theorem om_8dc85c50f369 {v0 v1 v2 v3 v4 : Int} (h0 : (v0 : Int) ≤ v1) (h1 : (v1 : Int) = v2) (h2 : (v3 : Int) = v0) (h3 : (v4 : Int) = v2) : (v3 : Int) ≤ v4 := by omega
theorem om_8dcc0950530e {v0 v1 v2 v3 : Int} (h0 : (0 : Int) ≤ v0) (h1 : (v0 : Int) ≤ v1) (h2 : (v2 : Int) ≤ 40) (h3 : (v1 : Int) < v2) (h4 : (v3 : Int) = (v1 + 1)) : (((0 : Int) ≤ v3) ∧ ((v3 : Int) ≤ 40)) := by omega
theorem om_8dd06492493b {v0 : Int} (h0 : (0 : Int) ≤ v0) (h1 : (v0 : Int) ≤ 12) : (((0 : Int) ≤ v0) ∧ ((v0 : Int) ≤ 12)) := by omega
theorem om_8e0e521f4f2b {v0 v1 : Int} (h0 : (0 : Int) ≤ v0) (h1 : (v0 : Int) ≤ 300) (h2 : (0 : Int) ≤ v1) (h3 : (v1 : Int) ≤ 300) : ((((-2147483648) : Int) ≤ (v0 + v1)) ∧ (((v0 + v1) : Int) ≤ 2147483647)) := by omega
theorem om_8e16e18f2461 {v0 v1 v2 v3 : Int} (h0 : (v0 : Int) = v1) (h1 : (v1 : Int) = v2) (h2 : (v3 : Int) = v0) : (v3 : Int) = v2 := by omega
theorem om_8e19d9e80009 {v0 v1 : Int} (h0 : (v0 : Int) = 0) (h1 : (v1 : Int) = v0) : (v1 : Int) = ((0 : Nat) : Int) := by omega
theorem om_8e28c84e1de4 {v0 : Int} (h0 : (v0 : Int) = 60) : (v0 : Int) ≠ 0 := by omega
theorem om_8e4f81a199d6 {v0 v1 v2 v3 v4 v5 v6 v7 : Int} (h0 : (v0 : Int) ≤ v1) (h1 : (v2 : Int) = (v1 + 1)) (h2 : (v3 : Int) = v2) (h3 : (v4 : Int) = v0) (h4 : ((v5 - v4) : Int) ≤ (v6 - v3)) (h5 : (v6 : Int) ≤ 300) (h6 : (0 : Int) ≤ v5) (h7 : (v7 : Int) = (v5 + 1)) : (((0 : Int) ≤ v7) ∧ ((v7 : Int) ≤ 1000000)) := by omega
theorem om_8e750d289af3 {v0 : Int} (h0 : (v0 : Int) ≤ 3999) (h1 : (0 : Int) ≤ v0) : ((((-2147483648) : Int) ≤ (v0 + 1)) ∧ (((v0 + 1) : Int) ≤ 2147483647)) := by omega
theorem om_8ee6a8695b20 {v0 v1 : Int} (h0 : (0 : Int) ≤ v0) (h1 : (v1 : Int) < 0) : (v1 : Int) < v0 := by omega
theorem om_8ef4e6ac8149 {v0 v1 v2 v3 v4 : Int} (h0 : (v0 : Int) ≤ 24) (h1 : (0 : Int) ≤ v1) (h2 : (v1 : Int) < v2) (h3 : (v3 : Int) = v2) (h4 : (v3 : Int) = v0) (h5 : (v4 : Int) = (v1 + 1)) : (((0 : Int) ≤ v4) ∧ ((v4 : Int) ≤ 24)) := by omega
theorem om_8f0fe6c39307 {v0 v1 v2 v3 v4 v5 v6 v7 v8 v9 v10 v11 : Int} (h0 : (v0 : Int) ≤ v1) (h1 : (v2 : Int) ≤ v0) (h2 : (v3 : Int) = (v1 + 1)) (h3 : (v4 : Int) = v3) (h4 : (v5 : Int) = v2) (h5 : ((v6 - v7) : Int) ≤ (v8 - v4)) (h6 : ((v9 - v5) : Int) ≤ (v6 - v7)) (h7 : (v8 : Int) ≤ 300) (h8 : (0 : Int) ≤ v9) (h9 : (v10 : Int) = v9) (h10 : (v11 : Int) = (v10 + 1)) : (((0 : Int) ≤ v11) ∧ ((v11 : Int) ≤ 300)) := by omega
theorem om_8f463946ce6c {v0 v1 v3 v6 : Int} {v2 v4 v5 : Nat} (h0 : (v0 : Int) ≤ 12) (h1 : ((300 - v1) : Int) ≤ ((v2 : Nat) : Int)) (h2 : ((10 - v3) : Int) ≤ ((v4 : Nat) : Int)) (h3 : ((12 - v0) : Int) ≤ ((v5 : Nat) : Int)) (h4 : (v1 : Int) ≤ 300) (h5 : (v6 : Int) = v3) (h6 : (v6 : Int) ≤ 10) : ((0 + 1) : Nat) ≤ ((((4 * v2) + (40 * v4)) + 15) + (2 * v5)) := by omega
theorem om_8f7de699279a {v0 v1 : Int} (h0 : (0 : Int) ≤ v0) (h1 : (v0 : Int) < 100) (h2 : (v1 : Int) = (v0 + 1)) : (((0 : Int) ≤ v1) ∧ ((v1 : Int) ≤ 1000000)) := by omega
theorem om_8fa4edb0aa9a {v0 v3 v5 : Int} {v1 v2 v4 : Nat} (h0 : ((v0 + ((v1 : Nat) : Int)) : Int) ≤ ((v2 : Nat) : Int)) (h1 : ((v3 + ((v4 : Nat) : Int)) : Int) ≤ ((v1 : Nat) : Int)) (h2 : (v5 : Int) = (v0 + v3)) : ((v5 + ((v4 : Nat) : Int)) : Int) ≤ ((v2 : Nat) : Int) := by omega
theorem om_9008b48e08e9 {v0 : Int} (h0 : (v0 : Int) ≤ 7) (h1 : (0 : Int) ≤ v0) : (((0 : Int) ≤ v0) ∧ ((v0 : Int) ≤ 7)) := by omega
theorem om_9038406c8093 {v0 : Int} (h0 : ((-1) : Int) ≤ v0) (h1 : (v0 : Int) ≠ (-1)) (h2 : (v0 : Int) = (-1)) : False := by omega
theorem om_9040f9b0dfde {v0 v1 v2 v3 : Int} (h0 : (v0 : Int) ≤ v1) (h1 : ((v1 + 1) : Int) ≤ v2) (h2 : (v3 : Int) = (v0 + 1)) : (v3 : Int) ≤ v2 := by omega
theorem om_905e9af22b02 {v0 : Int} (h0 : (v0 : Int) = 6) : (v0 : Int) ≠ 3 := by omega
theorem om_909fdea22c8c {v0 v2 : Int} {v1 : Nat} (h0 : ((300 - v0) : Int) ≤ ((v1 : Nat) : Int)) (h1 : (v0 : Int) ≤ v2) : ((300 - v2) : Int) ≤ ((v1 : Nat) : Int) := by omega
theorem om_90acea3ffa63 {v0 v1 : Int} (h0 : (1 : Int) ≤ v0) (h1 : (v0 : Int) ≤ 20000) (h2 : (v1 : Int) = (v0 - 1)) : (((0 : Int) ≤ v1) ∧ ((v1 : Int) ≤ 20000)) := by omega
theorem om_90d315f74ba4 {v0 v2 v4 v5 : Int} {v1 v3 : Nat} (h0 : ((300 - v0) : Int) ≤ ((v1 : Nat) : Int)) (h1 : ((10 - v2) : Int) ≤ ((v3 : Nat) : Int)) (h2 : (v4 : Int) = v5) (h3 : (v5 : Int) ≤ (24 * (10 - v2))) (h4 : (v0 : Int) ≤ 300) (h5 : (0 : Int) < v4) : ((0 + 1) : Nat) ≤ (((4 * v1) + (40 * v3)) + 13) := by omega
theorem om_90da01871135 {v0 : Nat} : (((8 + (4 + 11)) + 0) : Nat) ≤ ((300 * v0) + 500) := by omega
theorem om_90f28cb8bc30 {v0 v1 v2 v3 v4 v5 v6 v7 : Int} (h0 : (v0 : Int) ≤ v1) (h1 : (v2 : Int) = v0) (h2 : (v3 : Int) = v1) (h3 : ((v4 - v2) : Int) ≤ (v5 - v3)) (h4 : (v6 : Int) = v4) (h5 : (v7 : Int) = v5) : (v6 : Int) ≤ v7 := by omega
theorem om_917bfd6fc341 {v0 v1 v2 v3 v4 v5 : Int} (h0 : (0 : Int) ≤ v0) (h1 : (v1 : Int) ≤ v2) (h2 : (v3 : Int) = (24 * v0)) (h3 : (v4 : Int) = (v3 + v2)) (h4 : (v5 : Int) = (v4 - v1)) : (0 : Int) ≤ v5 := by omega
theorem om_91825ce4ac29 {v0 v1 : Int} (h0 : (0 : Int) ≤ v0) (h1 : (v0 : Int) ≤ v1) (h2 : (v1 : Int) < 340) : ((((-2147483648) : Int) ≤ (v0 + 1)) ∧ (((v0 + 1) : Int) ≤ 2147483647)) := by omega
theorem om_91b464413286 {v0 v1 v3 v4 v5 v6 : Int} {v2 : Nat} (h0 : ((v0 - v1) : Int) < ((v2 : Nat) : Int)) (h1 : (v0 : Int) = v3) (h2 : (v4 : Int) = (v1 + 1)) (h3 : (v5 : Int) = v3) (h4 : (v6 : Int) = v4) : ((v5 - v6) : Int) < ((v2 : Nat) : Int) := by omega
theorem om_9205c02eda4d {v0 : Int} {v1 : Nat} (h0 : (v0 : Int) ≤ 7) (h1 : ((7 - v0) : Int) ≤ ((v1 : Nat) : Int)) : (((8 + (3 + 11)) + 21) : Nat) ≤ ((300 * v1) + 290) := by omega
theorem om_9248ba120274 {v0 v1 v2 : Int} (h0 : (0 : Int) ≤ v0) (h1 : (v0 : Int) ≤ 39) (h2 : (v1 : Int) = (v0 * 24)) (h3 : (0 : Int) ≤ v2) (h4 : (v2 : Int) ≤ 23) : ((((-2147483648) : Int) ≤ (v1 + v2)) ∧ (((v1 + v2) : Int) ≤ 2147483647)) := by omega
theorem om_9271d0948665 {v0 v1 : Int} (h0 : (0 : Int) < v0) (h1 : (v1 : Int) = (v0 - 1)) : (0 : Int) ≤ v1 := by omega
theorem om_92a5ecb9f480 {v0 v1 v2 v3 v4 : Int} (h0 : (v0 : Int) = v1) (h1 : (v0 : Int) ≤ v2) (h2 : (v2 : Int) ≤ v3) (h3 : (v4 : Int) = v3) : (v1 : Int) ≤ v4 := by omega
theorem om_92a90bb16346 {v0 v1 : Int} (h0 : (v0 : Int) ≤ 999999) (h1 : (v1 : Int) = v0) : (v1 : Int) ≤ 999999 := by omega
theorem om_92cf5e489066 {v0 v1 : Nat} : (((8 + (13 + 11)) + (((100 * v0) + (1000 * v1)) + 410)) : Nat) ≤ (((100 * v0) + (1000 * v1)) + 460) := by omega
theorem om_92df152472f1 {v0 : Int} (h0 : ((-1) : Int) ≤ v0) (h1 : (v0 : Int) ≤ 299) (h2 : (v0 : Int) ≠ (-1)) : (((0 : Int) ≤ v0) ∧ ((v0 : Int) ≤ 299)) := by omega
theorem om_93aa01eebf48 {v0 v1 v2 v3 v4 v5 v6 v7 v8 v9 : Int} (h0 : (((v0 - v1) - v2) : Int) ≤ ((v3 - v4) - v5)) (h1 : (v6 : Int) = (v2 + 1)) (h2 : (v7 : Int) = v6) (h3 : (v8 : Int) = v1) (h4 : (v9 : Int) = v0) : (((v9 - v8) - v7) : Int) ≤ ((v3 - v4) - v5) := by omega
theorem om_93c6a791f561 {v0 : Int} {v1 : Nat} (h0 : (v0 : Int) = ((v1 : Nat) : Int)) (h1 : (v0 : Int) = 2) : (v1 : Nat) = 2 := by omega
theorem om_9422ee590085 {v0 v1 v2 v3 v4 v5 v6 v7 v8 v9 v10 v11 v12 v13 v14 v15 : Int} (h0 : (v0 : Int) = v1) (h1 : (v2 : Int) = v3) (h2 : (v4 : Int) = v5) (h3 : (((v6 - v7) - v8) : Int) ≤ ((v2 - v4) - v0)) (h4 : (((v9 - v10) - v11) : Int) ≤ ((v6 - v7) - v8)) (h5 : (v12 : Int) = v11) (h6 : (v13 : Int) = v10) (h7 : (v14 : Int) = v9) (h8 : (v5 : Int) = (v15 + 1)) : (((v14 - v13) - v12) : Int) ≤ ((v3 - v15) - v1) := by omega
theorem om_9443fca148a0 {v0 v1 v2 v3 v4 v5 v6 v7 v8 v9 v10 v11 v12 v13 v14 : Int} (h0 : (v0 : Int) = v1) (h1 : (v2 : Int) = v3) (h2 : (v4 : Int) = v5) (h3 : (((v6 + v7) - v8) : Int) ≤ ((v4 + v2) - v0)) (h4 : (((v9 + v10) - v11) : Int) ≤ ((v6 + v7) - v8)) (h5 : (v12 : Int) = v11) (h6 : (v13 : Int) = v9) (h7 : (v14 : Int) = v10) : (((v13 + v14) - v12) : Int) ≤ ((v5 + v3) - v1) := by omega
theorem om_944563b32814 {v1 : Int} {v0 v2 : Nat} (h0 : ((((v0 : Nat) : Int) + 1) : Int) = v1) (h1 : (v2 : Nat) = v0) (h2 : (v2 : Nat) ≤ 394) : (v1 : Int) ≤ 395 := by omega
theorem om_947a8f2a0e3a {v0 v1 v2 : Int} (h0 : (((v0 + v1) - v2) : Int) ≤ 999000) : (((v0 + v1) - v2) : Int) ≤ 999000 := by omega
theorem om_9495d81bd5ca {v1 v2 : Int} {v0 : Nat} (h0 : (((v0 : Nat) : Int) : Int) = v1) (h1 : (v2 : Int) = v1) : (((v0 : Nat) : Int) : Int) = v2 := by omega
theorem om_94ad3bbe076e {v0 v1 : Int} (h0 : (0 : Int) ≤ v0) (h1 : (v0 : Int) ≤ 12) (h2 : (v1 : Int) = (v0 - 1)) : ((((-1) : Int) ≤ v1) ∧ ((v1 : Int) ≤ 11)) := by omega
theorem om_94b0ea2fee37 {v0 : Int} (h0 : (0 : Int) < v0) (h1 : (v0 : Int) = 0) : False := by omega
theorem om_94db7e494f5c {v0 : Int} {v1 : Nat} (h0 : ((24 - v0) : Int) ≤ ((v1 : Nat) : Int)) (h1 : (v0 : Int) < 24) : (((8 + (4 + 11)) + 23) : Nat) ≤ ((300 * v1) + 260) := by omega
theorem om_94f5cc14f64d {v0 v2 v3 v4 : Int} {v1 : Nat} (h0 : ((300 - v0) : Int) ≤ ((v1 : Nat) : Int)) (h1 : (v2 : Int) = v0) (h2 : (v2 : Int) ≤ v3) (h3 : (v4 : Int) = v3) : ((300 - v4) : Int) ≤ ((v1 : Nat) : Int) := by omega
theorem om_94f7a5085f4d {v1 v2 v4 v6 v7 v8 v9 : Int} {v0 v3 v5 : Nat} (h0 : (((v0 : Nat) : Int) : Int) = v1) (h1 : (v2 : Int) = ((v3 : Nat) : Int)) (h2 : (v4 : Int) = ((v5 : Nat) : Int)) (h3 : (v6 : Int) = (24 * v1)) (h4 : (v7 : Int) = (v6 + v2)) (h5 : (v8 : Int) = (8 * v7)) (h6 : (v9 : Int) = (v8 + v4)) : (v9 : Int) = ((((8 * ((24 * v0) + v3)) + v5) : Nat) : Int) := by omega
theorem om_9500b6342cf6 {v0 v2 v4 : Int} {v1 v3 : Nat} (h0 : (v0 : Int) ≤ ((v1 : Nat) : Int)) (h1 : (v1 : Nat) = 24) (h2 : (v2 : Int) < v0) (h3 : (((v3 : Nat) : Int) : Int) = v2) (h4 : (v4 : Int) = (v2 + 1)) : (((0 : Int) ≤ v4) ∧ ((v4 : Int) ≤ 24)) := by omega
theorem om_953d7b5213d2 {v0 v1 v2 v3 v4 v5 : Int} (h0 : ((v0 - v1) : Int) ≤ (v2 - v3)) (h1 : (v4 : Int) = v2) (h2 : (v5 : Int) = v0) : ((v5 - v1) : Int) ≤ (v4 - v3) := by omega
theorem om_953ed16b636a {v0 v1 v2 v3 : Int} (h0 : (v0 : Int) ≤ v1) (h1 : (v2 : Int) = (v0 + 1)) (h2 : (v3 : Int) = (v1 + 1)) : (v2 : Int) ≤ v3 := by omega
theorem om_95514e7aa9e9 {v0 v2 : Int} {v1 : Nat} (h0 : ((12 - v0) : Int) < ((v1 : Nat) : Int)) (h1 : (v2 : Int) = (v0 + 1)) : ((12 - v2) : Int) < ((v1 : Nat) : Int) := by omega
theorem om_9559e577c106 {v0 : Int} (h0 : (v0 : Int) = 8) (h1 : (v0 : Int) = 3) : False := by omega
theorem om_9592d9319ffa {v0 v2 : Int} {v1 : Nat} (h0 : ((24 - v0) : Int) < ((v1 : Nat) : Int)) (h1 : (v2 : Int) = (v0 + 1)) : ((24 - v2) : Int) < ((v1 : Nat) : Int) := by omega
theorem om_95b7a1d732ac {v0 v1 : Int} (h0 : (v0 : Int) ≤ 6) (h1 : (v1 : Int) ≤ v0) : (v1 : Int) ≤ 6 := by omega
theorem om_962ed4ea2d62 {v0 v1 : Int} (h0 : (v0 : Int) ≤ v1) (h1 : (0 : Int) ≤ v0) : (0 : Int) ≤ v1 := by omega
theorem om_964a6cf15083 {v0 v1 v2 v3 : Int} (h0 : (v0 : Int) = v1) (h1 : ((v2 + 1) : Int) ≤ v1) (h2 : ((v3 + 1) : Int) ≤ v2) : ((v3 + 1) : Int) ≤ v0 := by omega
theorem om_96ca9fe4933d {v0 v2 : Int} {v1 : Nat} (h0 : (v0 : Int) = (((v1 + 1) : Nat) : Int)) (h1 : (v2 : Int) = v0) : (v2 : Int) = (((v1 + 1) : Nat) : Int) := by omega
theorem om_96d4fa0da761 {v0 v1 : Int} (h0 : (2 : Int) ≤ v0) (h1 : (v0 : Int) = v1) (h2 : (v0 : Int) = 2) : (v1 : Int) = 2 := by omega
theorem om_9706f18b5f9f {v0 v1 v2 v3 v4 v5 : Int} (h0 : (v0 : Int) ≤ 4000) (h1 : (0 : Int) ≤ v1) (h2 : (v1 : Int) ≤ v2) (h3 : (v3 : Int) ≤ v4) (h4 : (v4 : Int) = v0) (h5 : (v5 : Int) = (v3 - v2)) (h6 : (12 : Int) < v5) : ((((-2147483648) : Int) ≤ (v1 + 1)) ∧ (((v1 + 1) : Int) ≤ 2147483647)) := by omega
theorem om_97713d65e952 {v0 v1 v2 v3 : Int} (h0 : (v0 : Int) = v1) (h1 : (v1 : Int) = v2) (h2 : (v3 : Int) = (v0 + 1)) : (v3 : Int) = (v2 + 1) := by omega
theorem om_97818f2b34fd {v3 v6 : Int} {v0 v1 v2 v4 v5 : Nat} (h0 : (((24 * v0) + v1) : Nat) = ((24 * v0) + v2)) (h1 : (v3 : Int) = ((((24 * v0) + v1) : Nat) : Int)) (h2 : (v4 : Nat) = (v5 + 1)) (h3 : (v5 : Nat) = v2) (h4 : (v6 : Int) = v3) : ((v6 + 1) : Int) = ((24 * ((v0 : Nat) : Int)) + ((v4 : Nat) : Int)) := by omega
theorem om_97b844acc88a {v0 v1 : Int} (h0 : (0 : Int) ≤ v0) (h1 : (v0 : Int) = 0) (h2 : (v1 : Int) = v0) : (v1 : Int) = 0 := by omega
theorem om_97b857202b58 {v0 v1 v2 v3 v4 v5 : Int} (h0 : (((v0 + v1) - v2) : Int) ≤ ((v3 + v4) - v5)) (h1 : (v3 : Int) ≤ v0) : ((v1 - v4) : Int) ≤ (v2 - v5) := by omega
theorem om_97ddfa34d464 {v0 : Nat} (h0 : (v0 : Nat) < 155) : (v0 : Nat) < 155 := by omega
theorem om_97dfc17907f2 {v0 : Nat} : (((8 + (4 + 11)) + 27) : Nat) ≤ ((300 * v0) + 500) := by omega
theorem om_986471d62c0d {v0 : Int} (h0 : ((-1) : Int) ≤ v0) (h1 : (v0 : Int) ≤ 8200) (h2 : (v0 : Int) ≠ (-1)) : (((0 : Int) ≤ v0) ∧ ((v0 : Int) ≤ 2147483647)) := by omega
theorem om_988fd9260074 {v0 : Int} (h0 : (0 : Int) ≤ v0) (h1 : (v0 : Int) ≤ 2048) : ((((-2147483648) : Int) ≤ (v0 + 1)) ∧ (((v0 + 1) : Int) ≤ 2147483647)) := by omega
theorem om_9895f85a8d60 {v0 v2 v3 : Int} {v1 : Nat} (h0 : ((v0 + ((v1 : Nat) : Int)) : Int) = 8) (h1 : (0 : Int) ≤ v0) (h2 : (v2 : Int) = (v0 + 1)) (h3 : (v3 : Int) = (v2 - 1)) : (((0 : Int) ≤ v3) ∧ ((v3 : Int) ≤ 9)) := by omega
theorem om_98c6a0fbd82b {v0 v1 v2 : Int} (h0 : (0 : Int) ≤ v0) (h1 : (v0 : Int) ≤ v1) (h2 : (v2 : Int) ≤ 40) (h3 : (v1 : Int) < v2) : ((((-2147483648) : Int) ≤ (v0 + 1)) ∧ (((v0 + 1) : Int) ≤ 2147483647)) := by omega
theorem om_98da5f42c291 {v0 v1 : Int} (h0 : (v0 : Int) ≤ (8050 - (6 * v1))) : (v0 : Int) ≤ (8051 - (6 * v1)) := by omega
theorem om_992382949368 {v0 v1 v2 : Int} (h0 : (0 : Int) ≤ v0) (h1 : ((v0 + v1) : Int) = v2) (h2 : (9 : Int) < v1) : (0 : Int) ≤ v2 := by omega
theorem om_9951cd5fb3b5 {v0 : Nat} : ((0 + 1) : Nat) ≤ ((10 * v0) + 13) := by omega
theorem om_997c3611c5a7 {v0 v1 : Int} {v2 : Nat} (h0 : (v0 : Int) = 0) (h1 : (v1 : Int) = v0) (h2 : (v2 : Nat) = 0) : (((v2 : Nat) : Int) : Int) ≤ ((28 * v1) + 25) := by omega
theorem om_99c4753a5d76 {v0 : Nat} (h0 : (v0 : Nat) < 2) : (((5 * v0) + 0) : Nat) < 10 := by omega
theorem om_99ccff514471 {v0 : Int} (h0 : (1 : Int) ≤ v0) (h1 : (v0 : Int) ≠ 0) (h2 : (v0 : Int) ≤ 0) : False := by omega
theorem om_99cf4b14b592 {v0 v1 v2 v3 v4 : Int} {v5 : Nat} (h0 : (v0 : Int) = (v1 - 1)) (h1 : (v2 : Int) = v0) (h2 : (v3 : Int) = (v2 + 1)) (h3 : (v1 : Int) = (v4 + ((v5 : Nat) : Int))) : (v3 : Int) = (v4 + ((v5 : Nat) : Int)) := by omega
theorem om_99d028486b1a {v0 v1 v2 v3 v4 v5 v6 : Int} (h0 : (0 : Int) ≤ v0) (h1 : (v1 : Int) = (24 * v0)) (h2 : (v2 : Int) = (v1 + v3)) (h3 : (0 : Int) ≤ v4) (h4 : (v5 : Int) = (24 * v2)) (h5 : (v6 : Int) = (v5 + v4)) (h6 : (v4 : Int) = v3) : (0 : Int) ≤ v6 := by omega
theorem om_9a13a9f1f9cc {v0 v1 v2 v3 v4 : Int} (h0 : (v0 : Int) ≤ v1) (h1 : (v2 : Int) = (v1 + 1)) (h2 : (v3 : Int) = v2) (h3 : (v4 : Int) = v0) : ((v4 + 1) : Int) ≤ v3 := by omega
theorem om_9a523fff2738 {v0 v1 v2 : Nat} (h0 : (((v0 : Nat) : Int) : Int) ≤ ((v1 : Nat) : Int)) (h1 : ((((v2 : Nat) : Int) + 1) : Int) ≤ ((v0 : Nat) : Int)) : ((3 + 1) : Nat) ≤ ((10 * v1) + 8) := by omega
theorem om_9a79d30d956d {v1 v2 v3 : Int} {v0 : Nat} (h0 : (((v0 : Nat) : Int) : Int) ≤ ((84 * v1) + 56)) (h1 : (v2 : Int) = v1) (h2 : (v3 : Int) = v2) : (((v0 : Nat) : Int) : Int) ≤ ((84 * v3) + 56) := by omega
theorem om_9abcaebda219 {v0 v1 v2 v3 : Int} (h0 : (v0 : Int) = v1) (h1 : (0 : Int) ≤ v1) (h2 : (v1 : Int) ≤ 2048) (h3 : (v2 : Int) = (v0 - 1)) (h4 : (v3 : Int) = v2) : ((((-2147483648) : Int) ≤ (v3 - 1)) ∧ (((v3 - 1) : Int) ≤ 2147483647)) := by omega
theorem om_9b82ce80dab9 {v0 v1 v2 v3 v4 : Int} (h0 : (v0 : Int) < v1) (h1 : (v2 : Int) = (v1 - 1)) (h2 : (v3 : Int) = v2) (h3 : (v4 : Int) = v3) : (v0 : Int) ≤ v4 := by omega
theorem om_9b8773cb5ff2 {v0 v2 v3 v4 : Int} {v1 : Nat} (h0 : (((v0 + (192 * ((v1 : Nat) : Int))) + 192) : Int) ≤ (v2 + (24 * v3))) (h1 : (v4 : Int) = (v3 + 1)) : (((v0 + (192 * ((v1 : Nat) : Int))) + 192) : Int) ≤ (v2 + (24 * v4)) := by omega
theorem om_9bce30ce065a {v0 v1 v2 v3 v4 v5 v6 v7 v8 v9 v10 v11 v12 v13 v14 : Int} (h0 : (((v0 + v1) - v2) : Int) ≤ ((v3 + v4) - v5)) (h1 : (v6 : Int) = v2) (h2 : (v7 : Int) = v1) (h3 : (v8 : Int) = v0) (h4 : (((v9 + v10) - v11) : Int) ≤ ((v8 + v7) - v6)) (h5 : (v12 : Int) = v11) (h6 : (v13 : Int) = v9) (h7 : (v14 : Int) = v10) : (((v13 + v14) - v12) : Int) ≤ ((v3 + v4) - v5) := by omega
theorem om_9bdb3e8c8f6a {v0 v2 v3 v4 : Int} {v1 v5 v6 : Nat} (h0 : (v0 : Int) = ((v1 : Nat) : Int)) (h1 : ((v0 + v2) : Int) = v3) (h2 : (v2 : Int) < 9) (h3 : (v4 : Int) = (v2 + 1)) (h4 : (((v5 : Nat) : Int) : Int) = v3) (h5 : (v5 : Nat) = (v1 + v6)) : (((0 : Int) ≤ v4) ∧ ((v4 : Int) ≤ 4000)) := by omega
theorem om_9c48d3932e0b {v0 v1 v2 v3 : Int} (h0 : (v0 : Int) ≤ 4000) (h1 : (0 : Int) ≤ v1) (h2 : (v2 : Int) < v0) (h3 : (v3 : Int) = (v2 - v1)) (h4 : (12 : Int) < v3) : (((0 : Int) ≤ v2) ∧ ((v2 : Int) ≤ 4000)) := by omega
theorem om_9c4efbfbadc9 {v0 v1 v2 v3 : Int} (h0 : (0 : Int) ≤ v0) (h1 : (v0 : Int) ≤ 1) (h2 : (0 : Int) ≤ v1) (h3 : (v2 : Int) ≤ 24) (h4 : (v1 : Int) < v2) (h5 : (v3 : Int) = (24 * v0)) : ((((-2147483648) : Int) ≤ (v3 + v1)) ∧ (((v3 + v1) : Int) ≤ 2147483647)) := by omega
theorem om_9c8e9778751f {v1 v2 v3 v4 v5 v7 : Int} {v0 v6 : Nat} (h0 : (((v0 : Nat) : Int) : Int) ≤ ((28 * v1) + 26)) (h1 : (v2 : Int) = (v1 + 1)) (h2 : (v3 : Int) = v2) (h3 : (v4 : Int) = v3) (h4 : (v5 : Int) = (v4 - 1)) (h5 : (v6 : Nat) = (v0 + 1)) (h6 : (v7 : Int) = v5) : (((v6 : Nat) : Int) : Int) ≤ ((28 * v7) + 28) := by omega
theorem om_9cbd7d014ee3 {v0 : Nat} : ((2 + 1) : Nat) ≤ ((10 * v0) + 15) := by omega
theorem om_9cd8fd313d53 {v0 : Int} (h0 : (v0 : Int) = 4) : (v0 : Int) ≠ 3 := by omega
theorem om_9d1d1ca0895e {v0 v1 v2 : Int} (h0 : (v0 : Int) = v1) (h1 : (v2 : Int) = v1) : (v2 : Int) = v0 := by omega
theorem om_9ddbbe5f86ad {v0 v1 : Int} (h0 : (v0 : Int) ≤ 8) (h1 : (0 : Int) ≤ v0) (h2 : (v1 : Int) = (v0 + 1)) : ((((-2147483648) : Int) ≤ (v1 - 1)) ∧ (((v1 - 1) : Int) ≤ 2147483647)) := by omega
theorem om_9e006cd7c025 {v0 v1 : Nat} : (((((4 * v0) + (40 * v1)) + 8) + 1) : Nat) ≤ (((4 * v0) + (40 * v1)) + 9) := by omega
theorem om_9e3f6311c4ce {v0 : Int} {v1 v2 : Nat} (h0 : (v0 : Int) ≤ 0) (h1 : (((v1 : Nat) : Int) : Int) = v0) : (((12 * v2) + v1) : Nat) < ((12 * v2) + 12) := by omega
theorem om_9e4b7225c539 {v0 : Int} (h0 : (0 : Int) ≤ v0) (h1 : (v0 : Int) ≤ 23) : ((((-2147483648) : Int) ≤ (8 * v0)) ∧ (((8 * v0) : Int) ≤ 2147483647)) := by omega
theorem om_9e74629b553d {v0 v2 : Int} {v1 v3 : Nat} (h0 : (v0 : Int) = ((v1 : Nat) : Int)) (h1 : (v2 : Int) = ((v3 : Nat) : Int)) (h2 : (v1 : Nat) ≤ v3) : (v0 : Int) ≤ (v2 + 1) := by omega
theorem om_9e7d2b874257 {v0 v1 v3 : Int} {v2 : Nat} (h0 : ((v0 - v1) : Int) < ((v2 : Nat) : Int)) (h1 : (v3 : Int) = (v1 + 1)) : ((v0 - v3) : Int) < ((v2 : Nat) : Int) := by omega
theorem om_9ed0bc330a9d {v0 v1 v2 : Int} (h0 : (v0 : Int) = v1) (h1 : (v0 : Int) ≤ v2) : (v1 : Int) ≤ v2 := by omega
theorem om_9f6025fa2e28 {v0 : Int} (h0 : (1 : Int) ≤ v0) (h1 : (v0 : Int) ≤ 2) : (((1 : Int) ≤ v0) ∧ ((v0 : Int) ≤ 2)) := by omega
theorem om_9f66a8b7ed28 {v0 v1 v2 v4 : Int} {v3 : Nat} (h0 : (0 : Int) ≤ v0) (h1 : (v1 : Int) = v2) (h2 : (v2 : Int) ≤ ((v3 : Nat) : Int)) (h3 : (v4 : Int) ≤ v2) (h4 : ((v0 + 1) : Int) ≤ v4) : (((0 : Int) ≤ v1) ∧ ((v1 : Int) ≤ ((v3 : Nat) : Int))) := by omega
theorem om_9f6c8d73d61d {v0 : Nat} : (v0 : Nat) < (0 + (v0 + 1)) := by omega
theorem om_9f730d8f8954 {v0 v1 v2 : Int} (h0 : (0 : Int) ≤ v0) (h1 : (v0 : Int) ≤ 23) (h2 : (0 : Int) ≤ v1) (h3 : (v1 : Int) ≤ 7) (h4 : (v2 : Int) = (8 * v0)) : ((((-2147483648) : Int) ≤ (v2 + v1)) ∧ (((v2 + v1) : Int) ≤ 2147483647)) := by omega
theorem om_9f80946fedea {v0 : Int} (h0 : (0 : Int) ≤ v0) (h1 : (v0 : Int) ≤ 16777215) (h2 : (v0 : Int) ≠ 0) : ((((-2147483648) : Int) ≤ (v0 - 1)) ∧ (((v0 - 1) : Int) ≤ 2147483647)) := by omega
theorem om_9f85c220400b {v0 v1 : Int} (h0 : (0 : Int) ≤ v0) (h1 : (v0 : Int) < 8) (h2 : (v1 : Int) = (v0 + 1)) : (((0 : Int) ≤ v1) ∧ ((v1 : Int) ≤ 8)) := by omega
theorem om_9fe0774cf1db {v0 : Int} {v1 v2 v3 : Nat} (h0 : ((v0 + ((v1 : Nat) : Int)) : Int) ≤ 24) (h1 : (v0 : Int) = ((v2 : Nat) : Int)) (h2 : ((((v3 : Nat) : Int) + 1) : Int) ≤ ((v1 : Nat) : Int)) : ((v2 + 1) : Nat) ≤ 24 := by omega
theorem om_a00d5de16f2e {v0 : Int} {v1 : Nat} (h0 : ((300 - v0) : Int) ≤ ((v1 : Nat) : Int)) : ((300 - v0) : Int) ≤ ((v1 : Nat) : Int) := by omega
theorem om_a016fa500d59 {v0 : Int} {v1 v2 : Nat} (h0 : ((300 - v0) : Int) ≤ ((v1 : Nat) : Int)) (h1 : (v0 : Int) ≤ 300) : (((8 + (2 + 11)) + 0) : Nat) ≤ (((100 * v1) + (1000 * v2)) + 350) := by omega
theorem om_a04e8917cec1 {v0 : Int} (h0 : (v0 : Int) = 6) (h1 : (v0 : Int) = 14) : False := by omega
theorem om_a07038262bea {v1 : Int} {v0 v2 : Nat} (h0 : (((v0 : Nat) : Int) : Int) = v1) (h1 : (v0 : Nat) = v2) : (v1 : Int) = ((v2 : Nat) : Int) := by omega
theorem om_a092a5fe6ebf {v0 : Int} (h0 : (0 : Int) ≤ v0) (h1 : (v0 : Int) ≤ 300) (h2 : (v0 : Int) ≠ 300) : ((((-2147483648) : Int) ≤ (8 * v0)) ∧ (((8 * v0) : Int) ≤ 2147483647)) := by omega
theorem om_a0c405496c73 {v0 v1 v2 v3 : Int} (h0 : (v0 : Int) = v1) (h1 : (v2 : Int) = v0) (h2 : (v3 : Int) = v2) : (v3 : Int) = v1 := by omega
theorem om_a1266343c2df {v0 : Int} (h0 : (0 : Int) ≤ v0) (h1 : (v0 : Int) ≤ 23) : (((0 : Int) ≤ v0) ∧ ((v0 : Int) ≤ 24)) := by omega
theorem om_a13710c2be73 {v1 v2 : Int} {v0 : Nat} (h0 : (((v0 : Nat) : Int) : Int) = (1 - v1)) (h1 : (v0 : Nat) < 2) (h2 : (v2 : Int) = (1 - v1)) : (((0 : Int) ≤ v2) ∧ ((v2 : Int) ≤ 1)) := by omega
theorem om_a14fe9afdc0a {v0 v1 : Nat} : (((((4 * v0) + (40 * v1)) + 14) + 1) : Nat) ≤ (((4 * v0) + (40 * v1)) + 15) := by omega
theorem om_a191521786d2 {v0 : Int} (h0 : (0 : Int) ≤ v0) (h1 : (v0 : Int) ≤ 300) : ((((-2147483648) : Int) ≤ (v0 + 0)) ∧ (((v0 + 0) : Int) ≤ 2147483647)) := by omega
theorem om_a1be0cdad651 {v1 v2 v3 v4 v5 : Int} {v0 : Nat} (h0 : (((v0 : Nat) : Int) : Int) = v1) (h1 : (v2 : Int) = (10000 * ((v0 : Nat) : Int))) (h2 : (v2 : Int) ≤ 10000) (h3 : (v3 : Int) = v4) (h4 : (0 : Int) ≤ v4) (h5 : (v4 : Int) ≤ 24) (h6 : (v5 : Int) = (24 * v1)) : ((((-2147483648) : Int) ≤ (v5 + v3)) ∧ (((v5 + v3) : Int) ≤ 2147483647)) := by omega
theorem om_a20e3a1c21f1 {v0 v2 v4 : Int} {v1 v3 : Nat} (h0 : ((300 - v0) : Int) ≤ ((v1 : Nat) : Int)) (h1 : ((10 - v2) : Int) ≤ ((v3 : Nat) : Int)) (h2 : (v0 : Int) ≤ 300) (h3 : (v4 : Int) = v2) (h4 : (v4 : Int) ≤ 10) : (((8 + (1 + 11)) + 0) : Nat) ≤ (((100 * v1) + (1000 * v3)) + 410) := by omega
theorem om_a2701b6af055 {v1 v2 v3 v4 v5 v7 v8 v9 : Int} {v0 v6 v10 : Nat} (h0 : (((v0 : Nat) : Int) : Int) = v1) (h1 : (v2 : Int) = v3) (h2 : (v4 : Int) = (24 * v1)) (h3 : (v5 : Int) = (v4 + v2)) (h4 : (((v6 : Nat) : Int) : Int) = ((24 * ((v0 : Nat) : Int)) + v3)) (h5 : (0 : Int) ≤ v7) (h6 : (v8 : Int) = (20 * v5)) (h7 : (v9 : Int) = (v8 + v7)) (h8 : (((v10 : Nat) : Int) : Int) = v9) : ((20 * v6) : Nat) ≤ v10 := by omega
theorem om_a311f240fdee {v0 : Nat} : (((8 + (4 + 11)) + ((300 * v0) + 210)) : Nat) ≤ ((300 * v0) + 240) := by omega
theorem om_a3264a8e9b1e {v0 : Int} (h0 : (v0 : Int) = 11) (h1 : (v0 : Int) = 0) : False := by omega
theorem om_a32fe5cb4247 {v0 v1 : Int} (h0 : (v0 : Int) ≤ 24) (h1 : (v1 : Int) ≤ 24) : ((v0 + v1) : Int) ≤ 48 := by omega
theorem om_a33138690906 {v0 v1 v2 v3 : Int} (h0 : (v0 : Int) ≤ (8 * v1)) (h1 : (v2 : Int) = 0) (h2 : (v3 : Int) = v0) : (v3 : Int) ≤ ((8 * v1) + v2) := by omega
theorem om_a3438d7567fb {v1 v2 v3 v4 v5 v6 : Int} {v0 v7 : Nat} (h0 : (((v0 : Nat) : Int) : Int) ≤ ((28 * v1) + 26)) (h1 : (v2 : Int) = (v1 + 1)) (h2 : (v3 : Int) = v2) (h3 : (v4 : Int) = v3) (h4 : (v5 : Int) = (v4 - 1)) (h5 : (v6 : Int) = v5) (h6 : (v7 : Nat) = (v0 + 1)) : (((v7 : Nat) : Int) : Int) ≤ ((28 * v6) + 28) := by omega
theorem om_a3526e385ccb {v0 v1 v2 v3 v4 v5 v6 : Int} (h0 : (v0 : Int) ≤ v1) (h1 : (v2 : Int) = v1) (h2 : (v2 : Int) ≤ v3) (h3 : ((v3 - v0) : Int) ≤ (v4 - v5)) (h4 : (v6 : Int) = v4) : (v5 : Int) ≤ v6 := by omega
theorem om_a3653ed81a9c {v0 v1 v2 : Int} (h0 : (v0 : Int) < v1) (h1 : (v2 : Int) ≤ v0) : (v2 : Int) < v1 := by omega
theorem om_a36ae8171877 {v0 : Int} (h0 : (v0 : Int) = 2) (h1 : (v0 : Int) = 15) : False := by omega
theorem om_a38b62d84ac3 {v0 : Nat} : ((0 + 1) : Nat) ≤ ((10 * v0) + 6) := by omega
theorem om_a3c3ab3149d1 {v0 : Int} (h0 : (0 : Int) ≤ v0) (h1 : (v0 : Int) ≠ 0) (h2 : (v0 : Int) = (-1)) : False := by omega
theorem om_a40cdd94799e {v0 v1 v2 : Int} (h0 : (v0 : Int) ≤ v1) (h1 : (v2 : Int) = v1) : (v0 : Int) ≤ v2 := by omega
theorem om_a43fe9ef6d7f {v0 v1 v2 : Int} (h0 : (0 : Int) ≤ v0) (h1 : (v1 : Int) ≤ 8) (h2 : (v0 : Int) < v1) (h3 : (v2 : Int) = (v0 + 1)) : (((0 : Int) ≤ v2) ∧ ((v2 : Int) ≤ 12)) := by omega
theorem om_a46bf36ddf1a {v0 v1 v2 v3 v4 v5 : Int} (h0 : (v0 : Int) = 4) (h1 : (v1 : Int) = 0) (h2 : (v2 : Int) = v3) (h3 : (v4 : Int) = v0) (h4 : (v5 : Int) = v1) : (((v2 : Int) = v3) ∧ ((((v4 : Int) = 4) ∧ ((v5 : Int) = 0)))) := by omega
theorem om_a46d3d9b9c91 {v0 : Int} {v1 : Nat} (h0 : ((v0 + ((v1 : Nat) : Int)) : Int) = 8) : ((v0 + ((v1 : Nat) : Int)) : Int) = 8 := by omega
theorem om_a4f98a710256 {v0 : Nat} (h0 : (v0 : Nat) < 2) : (((5 * v0) + 3) : Nat) < 10 := by omega
theorem om_a51dc5ad8918 {v0 v1 : Int} (h0 : (v0 : Int) = 0) (h1 : (0 : Int) ≤ v1) : (v0 : Int) ≤ v1 := by omega
theorem om_a5282aae22c7 {v0 : Int} (h0 : (0 : Int) ≤ v0) (h1 : (v0 : Int) ≤ 1) (h2 : (v0 : Int) ≠ 0) : (((0 : Int) ≤ v0) ∧ ((v0 : Int) ≤ 1)) := by omega
theorem om_a5349b170263 {v0 v1 : Int} (h0 : (0 : Int) ≤ v0) (h1 : (v0 : Int) < 24) (h2 : (v1 : Int) = (v0 + 1)) : (((0 : Int) ≤ v1) ∧ ((v1 : Int) ≤ 24)) := by omega
theorem om_a57a38650ea7 {v0 : Int} (h0 : (v0 : Int) = 5) (h1 : (v0 : Int) = 14) : False := by omega
theorem om_a5f6827dfb36 {v0 : Nat} : (((8 + (2 + 11)) + 0) : Nat) ≤ ((300 * v0) + 420) := by omega
theorem om_a60ff2ddb681 {v0 v1 v3 v6 : Int} {v2 v4 v5 : Nat} (h0 : (v0 : Int) ≤ 12) (h1 : ((300 - v1) : Int) ≤ ((v2 : Nat) : Int)) (h2 : ((10 - v3) : Int) ≤ ((v4 : Nat) : Int)) (h3 : ((12 - v0) : Int) ≤ ((v5 : Nat) : Int)) (h4 : (v1 : Int) ≤ 300) (h5 : (v6 : Int) = v3) (h6 : (v6 : Int) ≤ 10) : ((1 + 1) : Nat) ≤ ((((4 * v2) + (40 * v4)) + 15) + (2 * v5)) := by omega
theorem om_a62e83e85e57 {v0 v1 v2 v3 v4 v5 : Int} (h0 : (v0 : Int) ≤ 4000) (h1 : (0 : Int) ≤ v1) (h2 : (v1 : Int) ≤ v2) (h3 : (v3 : Int) < v0) (h4 : (v4 : Int) = (v3 - v2)) (h5 : (9 : Int) < v4) (h6 : (v5 : Int) = (v1 + 1)) : (((0 : Int) ≤ v5) ∧ ((v5 : Int) ≤ 4000)) := by omega
theorem om_a6d93a7b3e6e {v0 v1 v2 v3 v4 v5 v6 v7 v8 v9 : Int} (h0 : (v0 : Int) = v1) (h1 : (v2 : Int) = v3) (h2 : ((v4 - v0) : Int) ≤ (v5 - v2)) (h3 : (v6 : Int) = v4) (h4 : (v7 : Int) = v5) (h5 : ((v8 - v6) : Int) ≤ (v9 - v7)) : ((v8 - v1) : Int) ≤ (v9 - v3) := by omega
theorem om_a6df43a99748 {v0 : Int} (h0 : (v0 : Int) ≤ 19999) (h1 : (0 : Int) ≤ v0) : ((((-2147483648) : Int) ≤ (v0 + 1)) ∧ (((v0 + 1) : Int) ≤ 2147483647)) := by omega
theorem om_a6fe9f57b89b {v0 : Int} (h0 : (v0 : Int) = 14) (h1 : (v0 : Int) = 15) : False := by omega
theorem om_a7012b42e326 {v1 : Int} {v0 : Nat} (h0 : (((v0 : Nat) : Int) : Int) ≤ ((28 * v1) + 26)) : (((v0 : Nat) : Int) : Int) ≤ ((28 * v1) + 26) := by omega
theorem om_a70d25fae593 {v0 v2 : Int} {v1 : Nat} (h0 : ((7 - v0) : Int) < ((v1 : Nat) : Int)) (h1 : (v2 : Int) = (v0 + 1)) : ((7 - v2) : Int) < ((v1 : Nat) : Int) := by omega
theorem om_a72129a5d0e7 {v0 v1 v2 v3 : Int} (h0 : (0 : Int) ≤ v0) (h1 : (v0 : Int) ≤ v1) (h2 : (v2 : Int) ≤ 4000) (h3 : (v1 : Int) < v2) (h4 : (v3 : Int) = (v0 + 1)) : (((0 : Int) ≤ v3) ∧ ((v3 : Int) ≤ 4000)) := by omega
theorem om_a750ed116da7 {v0 v1 : Int} (h0 : (v0 : Int) = 0) (h1 : (v1 : Int) = 0) : (v1 : Int) ≤ (8 * v0) := by omega
theorem om_a88abdac34d9 {v0 v2 v3 v4 : Int} {v1 v5 v6 : Nat} (h0 : (v0 : Int) = ((v1 : Nat) : Int)) (h1 : ((v0 + v2) : Int) = v3) (h2 : (v2 : Int) < 12) (h3 : (v4 : Int) = (v2 + 1)) (h4 : (((v5 : Nat) : Int) : Int) = v3) (h5 : (v5 : Nat) = (v1 + v6)) : (((0 : Int) ≤ v4) ∧ ((v4 : Int) ≤ 4000)) := by omega
theorem om_a8ad093d1962 {v0 : Int} (h0 : (v0 : Int) = 5) (h1 : (v0 : Int) = 15) : False := by omega
theorem om_a90075b28fa2 {v0 v1 v2 v3 v4 v5 v6 v7 v8 v9 v10 v11 : Int} (h0 : (((v0 + v1) - v2) : Int) ≤ ((v3 + v4) - v5)) (h1 : (v6 : Int) = v2) (h2 : (v7 : Int) = v1) (h3 : (v8 : Int) = v0) (h4 : (((v9 + v10) - v11) : Int) ≤ ((v8 + v7) - v6)) : (((v9 + v10) - v11) : Int) ≤ ((v3 + v4) - v5) := by omega
theorem om_a917cdb148aa {v0 : Int} (h0 : (v0 : Int) = 6) (h1 : (v0 : Int) = 0) : False := by omega
theorem om_a97166e33c63 {v0 v1 v2 v3 v4 : Int} (h0 : (v0 : Int) ≤ 4000) (h1 : (0 : Int) ≤ v1) (h2 : ((v1 + v2) : Int) = v3) (h3 : (v3 : Int) < v0) (h4 : (12 : Int) ≤ v2) (h5 : (v4 : Int) = (v3 + 1)) : (((0 : Int) ≤ v4) ∧ ((v4 : Int) ≤ 4000)) := by omega
theorem om_a98cd8d2da4e {v1 : Int} {v0 v2 : Nat} (h0 : (v0 : Nat) < 2) (h1 : (v1 : Int) ≤ 11) (h2 : (((v2 : Nat) : Int) : Int) = v1) : (((12 * v0) + v2) : Nat) < 24 := by omega
theorem om_a9904d4d2531 {v0 v2 : Int} {v1 : Nat} (h0 : (v0 : Int) = ((v1 : Nat) : Int)) (h1 : (v2 : Int) = (v0 + 1)) : (v2 : Int) = (((v1 : Nat) : Int) + 1) := by omega
theorem om_a99e9373e089 {v0 v1 v2 v3 : Int} (h0 : (0 : Int) ≤ v0) (h1 : (v1 : Int) = (v0 + 1)) (h2 : (v2 : Int) = v1) (h3 : (v3 : Int) = v2) (h4 : (v3 : Int) ≤ 9) : ((((-2147483648) : Int) ≤ (v3 - 1)) ∧ (((v3 - 1) : Int) ≤ 2147483647)) := by omega
theorem om_a9f57f50f2a3 {v0 : Int} {v1 v2 : Nat} (h0 : ((10 - v0) : Int) ≤ ((v1 : Nat) : Int)) (h1 : (v0 : Int) ≤ 10) : (((8 + (2 + 11)) + 0) : Nat) ≤ (((100 * v2) + (1000 * v1)) + 590) := by omega
theorem om_aa2ebae7eb1c {v0 v1 v2 v3 v4 v5 v6 : Int} (h0 : (v0 : Int) ≤ 3000) (h1 : (v1 : Int) = 0) (h2 : (v2 : Int) = v3) (h3 : (v4 : Int) = v5) (h4 : (v6 : Int) = v1) : (((v4 - v6) - v2) : Int) ≤ (((v5 - v0) - v3) + 3000) := by omega
theorem om_aa84b7f0023f {v0 v1 v2 v3 v4 v5 v6 v7 v8 v9 : Int} (h0 : (v0 : Int) ≤ v1) (h1 : (v2 : Int) = (v1 + 1)) (h2 : (v3 : Int) = v2) (h3 : (v4 : Int) = v0) (h4 : ((v5 - v4) : Int) ≤ (v6 - v3)) (h5 : ((v7 - v5) : Int) ≤ (v8 - v6)) (h6 : (v8 : Int) ≤ 300) (h7 : (0 : Int) ≤ v7) (h8 : (v9 : Int) = (v7 + 1)) : (((0 : Int) ≤ v9) ∧ ((v9 : Int) ≤ 1000000)) := by omega
theorem om_aa87b4b6673b {v0 v1 : Nat} (h0 : (v0 : Nat) = v1) : (v0 : Nat) < (v1 + 1) := by omega
theorem om_aa89c9edebfc {v0 : Nat} : ((((16 + (5 * v0)) + 1) + 4) : Nat) ≤ (16 + (5 * (v0 + 1))) := by omega
theorem om_aa9c6a29aa82 {v0 : Int} (h0 : (v0 : Int) = 128) : (v0 : Int) = 128 := by omega
theorem om_aadb8b99336c {v0 v1 v2 : Int} (h0 : (v0 : Int) = v1) (h1 : (v2 : Int) = v1) : (v0 : Int) = v2 := by omega
theorem om_ab4652fc1591 {v0 : Int} (h0 : (v0 : Int) = 11) (h1 : (v0 : Int) = 14) : False := by omega
theorem om_ab9886dd975a {v1 v2 v3 : Int} {v0 : Nat} (h0 : ((((v0 : Nat) : Int) - v1) : Int) < v2) (h1 : ((v1 + 1) : Int) ≤ v3) : ((((v0 : Nat) : Int) - v3) : Int) < (v2 - 1) := by omega
theorem om_abb00e6ed28d {v0 v1 v2 v3 : Int} (h0 : (v0 : Int) < v1) (h1 : (v1 : Int) ≤ v2) (h2 : (v3 : Int) = v2) : (v0 : Int) < v3 := by omega
theorem om_abbf7292d199 {v0 : Int} (h0 : (v0 : Int) = 99) : (v0 : Int) ≤ 999999999 := by omega
theorem om_abdc88b0c8fc {v0 v1 : Int} (h0 : (v0 : Int) = v1) : (v1 : Int) ≤ v0 := by omega
theorem om_ac0b685ca4ca {v0 v1 : Int} (h0 : (0 : Int) ≤ v0) (h1 : (v1 : Int) = v0) : (0 : Int) ≤ v1 := by omega
theorem om_ac1a58a2b44e {v0 : Int} (h0 : (0 : Int) ≤ v0) (h1 : (v0 : Int) ≤ 11) : (((0 : Int) ≤ v0) ∧ ((v0 : Int) ≤ 11)) := by omega
theorem om_ac45556e949d {v0 v1 : Int} (h0 : (v0 : Int) < 12) (h1 : (v1 : Int) ≤ v0) (h2 : (0 : Int) < v1) : (((0 : Int) ≤ v0) ∧ ((v0 : Int) ≤ 11)) := by omega
theorem om_ac7b8d4d9f10 {v0 v1 : Int} (h0 : (0 : Int) ≤ v0) (h1 : (v1 : Int) ≤ 24) (h2 : (v0 : Int) < v1) : (((0 : Int) ≤ v0) ∧ ((v0 : Int) ≤ 23)) := by omega
theorem om_acf52f67f249 {v0 v2 : Int} {v1 : Nat} (h0 : (v0 : Int) ≤ 12) (h1 : (((v1 : Nat) : Int) : Int) ≤ ((84 * v2) + (28 * v0))) (h2 : (v2 : Int) ≤ 10) : ((0 + v1) : Nat) ≤ 2000 := by omega
theorem om_ad05200ec320 {v0 v1 v3 v4 : Int} {v2 : Nat} (h0 : (0 : Int) ≤ v0) (h1 : (v0 : Int) < v1) (h2 : (v1 : Int) ≤ 300) (h3 : (((v2 : Nat) : Int) : Int) = v3) (h4 : (v2 : Nat) < 8) (h5 : (v4 : Int) = (8 * v0)) : ((((-2147483648) : Int) ≤ (v4 + v3)) ∧ (((v4 + v3) : Int) ≤ 2147483647)) := by omega
theorem om_ad2789741d59 {v0 : Int} (h0 : ((-1) : Int) ≤ v0) (h1 : (v0 : Int) < 0) : ((((-1) : Int) ≤ v0) ∧ ((v0 : Int) ≤ 47)) := by omega
theorem om_ad40d0ac5b52 {v0 : Int} (h0 : (0 : Int) ≤ v0) (h1 : (v0 : Int) ≤ 20) : (((0 : Int) ≤ v0) ∧ ((v0 : Int) ≤ 24)) := by omega
theorem om_ad53b8b0928c {v0 v1 v2 : Int} (h0 : (v0 : Int) < v1) (h1 : (v2 : Int) = v1) : (v0 : Int) < v2 := by omega
theorem om_ad92e6bcc85d {v0 v1 v2 v3 v4 : Int} (h0 : (v0 : Int) = v1) (h1 : (v0 : Int) ≤ v2) (h2 : (v3 : Int) = (v2 + 1)) (h3 : (v4 : Int) = v3) : (v1 : Int) ≤ v4 := by omega
theorem om_ada4133e811d {v0 v1 : Int} (h0 : (v0 : Int) ≤ 24) (h1 : ((-1) : Int) ≤ v1) (h2 : (v1 : Int) < v0) : ((((-1) : Int) ≤ v1) ∧ ((v1 : Int) ≤ 47)) := by omega
theorem om_add9820b4ee0 {v0 : Int} {v1 v2 : Nat} (h0 : (v0 : Int) ≤ 47) (h1 : (v0 : Int) = ((v1 : Nat) : Int)) (h2 : ((24 * v2) : Nat) ≤ v1) : ((((-2147483648) : Int) ≤ (20 * v0)) ∧ (((20 * v0) : Int) ≤ 2147483647)) := by omega
theorem om_adf531c77a0d {v0 v2 : Int} {v1 : Nat} (h0 : (v0 : Int) = ((v1 : Nat) : Int)) (h1 : (v2 : Int) = v0) : (v2 : Int) = ((v1 : Nat) : Int) := by omega
theorem om_adf5f0c9db78 {v0 v1 v2 v3 v4 : Int} (h0 : (v0 : Int) ≤ v1) (h1 : (v1 : Int) < v2) (h2 : (v2 : Int) ≤ v3) (h3 : (v4 : Int) = (v0 + 1)) : (v4 : Int) ≤ v3 := by omega
theorem om_adfb42eaa151 {v0 : Int} {v1 v2 : Nat} (h0 : ((300 - v0) : Int) ≤ ((v1 : Nat) : Int)) (h1 : (v0 : Int) ≤ 300) : ((1 + 1) : Nat) ≤ (((4 * v1) + (40 * v2)) + 13) := by omega
theorem om_ae154f491ccb {v0 : Int} (h0 : ((-1) : Int) ≤ v0) (h1 : (v0 : Int) ≤ 11) : ((((-1) : Int) ≤ v0) ∧ ((v0 : Int) ≤ 11)) := by omega
theorem om_ae187cbc5679 {v1 : Int} {v0 : Nat} (h0 : (v0 : Nat) = 2) (h1 : (v1 : Int) = 2) : (v1 : Int) = ((v0 : Nat) : Int) := by omega
theorem om_ae4ef619a249 {v0 : Int} (h0 : (v0 : Int) = 3) (h1 : (v0 : Int) = 14) : False := by omega
theorem om_ae74c1842cea {v0 v2 v3 v4 : Int} {v1 : Nat} (h0 : (v0 : Int) = ((v1 : Nat) : Int)) (h1 : (0 : Int) ≤ v2) (h2 : (v3 : Int) = (24 * v2)) (h3 : (v4 : Int) = (v3 + v0)) : (0 : Int) ≤ v4 := by omega
theorem om_ae962d47583e {v0 v1 v2 v3 v4 v5 v6 v7 v8 : Int} (h0 : (v0 : Int) = v1) (h1 : (v2 : Int) = v3) (h2 : (v4 : Int) = v5) (h3 : (((v6 - v7) - v8) : Int) ≤ ((v2 - v4) - v0)) : (((v6 - v7) - v8) : Int) ≤ ((v3 - v5) - v1) := by omega
theorem om_ae9e2a5c6706 {v0 : Int} {v1 : Nat} (h0 : (v0 : Int) = ((v1 : Nat) : Int)) (h1 : (v0 : Int) = 1) : ¬ ((v1 : Nat) = 2) := by omega
theorem om_af4d6b4dd8f8 {v0 v1 v2 : Int} (h0 : (v0 : Int) = 0) (h1 : (v1 : Int) ≤ (8051 - (6 * v0))) (h2 : (v2 : Int) = (v1 + 1)) : (v2 : Int) ≤ 8060 := by omega
theorem om_af64e361c991 {v0 : Nat} (h0 : (v0 : Nat) ≤ 4000) : (v0 : Nat) ≤ 4000 := by omega
theorem om_af94d57fe68b {v0 v1 v2 : Int} (h0 : (0 : Int) ≤ v0) (h1 : (v0 : Int) ≤ 23) (h2 : (0 : Int) ≤ v1) (h3 : (v1 : Int) ≤ 39) (h4 : (v2 : Int) = (24 * v1)) : ((((-2147483648) : Int) ≤ (v2 + v0)) ∧ (((v2 + v0) : Int) ≤ 2147483647)) := by omega
theorem om_afbadf09b73c {v0 v1 : Int} {v2 v3 v4 v5 v6 : Nat} (h0 : (v0 : Int) = (v1 + 1)) (h1 : (v2 : Nat) = v3) (h2 : (((v3 : Nat) : Int) : Int) = ((v4 : Nat) : Int)) (h3 : (v1 : Int) = ((((10000 * v5) + v6) : Nat) : Int)) : (((((v2 : Nat) : Int) : Int) = ((v4 : Nat) : Int)) ∧ ((v0 : Int) = ((((10000 * v5) + (v6 + 1)) : Nat) : Int))) := by omega
theorem om_afc7a4c8b051 {v0 v1 v3 : Int} {v2 : Nat} (h0 : (v0 : Int) = v1) (h1 : (v1 : Int) ≤ ((v2 : Nat) : Int)) (h2 : (v2 : Nat) = 24) (h3 : (0 : Int) ≤ v3) (h4 : (v3 : Int) < v0) : (((0 : Int) ≤ v3) ∧ ((v3 : Int) ≤ 23)) := by omega
theorem om_b001b6699d87 {v0 v1 v2 : Nat} : ((((((4 * v0) + (40 * v1)) + 14) + (2 * v2)) + 1) : Nat) ≤ ((((4 * v0) + (40 * v1)) + 15) + (2 * v2)) := by omega
theorem om_b0110067cd1f {v0 : Int} {v1 : Nat} : ((v0 + (192 * ((v1 : Nat) : Int))) : Int) ≤ (v0 + (192 * ((v1 : Nat) : Int))) := by omega
theorem om_b01b5ef75086 {v0 v1 v2 v3 : Int} (h0 : (0 : Int) ≤ v0) (h1 : (v0 : Int) ≤ 299) (h2 : (0 : Int) ≤ v1) (h3 : (v2 : Int) ≤ 8) (h4 : (v1 : Int) < v2) (h5 : (v3 : Int) = (8 * v0)) : ((((-2147483648) : Int) ≤ (v3 + v1)) ∧ (((v3 + v1) : Int) ≤ 2147483647)) := by omega
theorem om_b02ddf2a5870 {v0 : Int} (h0 : (1 : Int) ≤ v0) (h1 : (v0 : Int) ≠ 0) (h2 : (v0 : Int) = 0) : False := by omega
theorem om_b0a5004a4cc0 {v1 v2 v3 : Int} {v0 : Nat} (h0 : (v0 : Nat) ≤ 4000) (h1 : (v1 : Int) < ((v0 : Nat) : Int)) (h2 : (v2 : Int) ≤ (2 * v1)) (h3 : (v3 : Int) = v2) : (v3 : Int) ≤ 8200 := by omega
theorem om_b0c18798cd6b {v0 v1 v2 v3 : Int} (h0 : (v0 : Int) < v1) (h1 : (0 : Int) ≤ v0) (h2 : (v2 : Int) = v1) (h3 : (v3 : Int) = v0) : (((0 : Int) ≤ v3) ∧ ((v3 : Int) < v2)) := by omega
theorem om_b0dfc321db86 {v0 v1 v2 v3 v4 : Int} (h0 : (v0 : Int) = v1) (h1 : (v2 : Int) = v0) (h2 : (v3 : Int) ≤ (8048 - (6 * v2))) (h3 : (v4 : Int) = (v3 + 1)) : (v4 : Int) ≤ (8049 - (6 * v1)) := by omega
theorem om_b0e3ceac5369 {v0 v2 : Int} {v1 : Nat} (h0 : ((8 - v0) : Int) < ((v1 : Nat) : Int)) (h1 : (v2 : Int) = (v0 + 1)) : ((8 - v2) : Int) < ((v1 : Nat) : Int) := by omega
theorem om_b0eb2bb83bb7 {v0 v1 v2 : Int} (h0 : (v0 : Int) = v1) (h1 : (0 : Int) ≤ v1) (h2 : (v2 : Int) = 0) : (v2 : Int) ≤ v0 := by omega
theorem om_b0f4824b8fa3 {v0 v1 : Nat} (h0 : (v0 : Nat) = v1) : ((0 + v0) : Nat) ≤ v1 := by omega
theorem om_b118450a2d97 {v1 v3 : Int} {v0 v2 : Nat} (h0 : (((v0 : Nat) : Int) : Int) ≤ ((84 * v1) + 56)) (h1 : (((v2 : Nat) : Int) : Int) ≤ 27) (h2 : (v3 : Int) = v1) (h3 : (v3 : Int) ≤ 10) : ((v2 + v0) : Nat) ≤ 2000 := by omega
theorem om_b118672944e8 {v0 : Int} (h0 : (1 : Int) ≤ v0) (h1 : (v0 : Int) ≤ 40) : ((((-2147483648) : Int) ≤ (v0 + 1)) ∧ (((v0 + 1) : Int) ≤ 2147483647)) := by omega
theorem om_b12fdcab78b4 {v0 v1 v2 : Int} (h0 : (v0 : Int) ≤ 300) (h1 : (0 : Int) ≤ v1) (h2 : (v1 : Int) ≤ v2) (h3 : (v2 : Int) < v0) : ((((-2147483648) : Int) ≤ (v1 + 0)) ∧ (((v1 + 0) : Int) ≤ 2147483647)) := by omega
theorem om_b1799fcf2d63 {v0 : Int} (h0 : (0 : Int) ≤ v0) (h1 : (v0 : Int) = 0) : (v0 : Int) = 0 := by omega
theorem om_b19798a21c0a {v1 v3 : Int} {v0 v2 : Nat} (h0 : (((v0 : Nat) : Int) : Int) ≤ ((28 * v1) + (2 * ((v2 : Nat) : Int)))) (h1 : (v2 : Nat) ≤ 12) (h2 : (v3 : Int) = v1) (h3 : (v3 : Int) ≤ 10) : (v0 : Nat) ≤ 394 := by omega
theorem om_b1b3c2de07ba {v0 : Int} {v1 : Nat} (h0 : (v0 : Int) ≤ 8) (h1 : ((8 - v0) : Int) ≤ ((v1 : Nat) : Int)) : ((0 + 1) : Nat) ≤ ((10 * v1) + 7) := by omega
theorem om_b1c60bcb684f {v0 v1 : Int} (h0 : (0 : Int) ≤ v0) (h1 : (v0 : Int) < 12) (h2 : (v1 : Int) = (v0 + 1)) : (((0 : Int) ≤ v1) ∧ ((v1 : Int) ≤ 12)) := by omega
theorem om_b20d9dd45635 {v0 v1 v2 v3 v4 : Int} (h0 : (v0 : Int) = 0) (h1 : (v1 : Int) = 0) (h2 : (v2 : Int) = 0) (h3 : (v3 : Int) = 0) (h4 : (v4 : Int) = 0) : (((v0 : Int) = 0) ∧ ((((v1 : Int) = 0) ∧ ((((v2 : Int) = 0) ∧ ((((v3 : Int) = 0) ∧ ((v4 : Int) = 0)))))))) := by omega
theorem om_b21fd9b9d06d {v0 v1 : Int} (h0 : (0 : Int) ≤ v0) (h1 : (v1 : Int) ≤ 8) (h2 : (v0 : Int) < v1) : ((((-100) : Int) ≤ v0) ∧ ((v0 : Int) ≤ 24)) := by omega
theorem om_b233172a189d {v0 v1 v2 v3 v4 : Int} (h0 : (v0 : Int) ≤ 4000) (h1 : (0 : Int) ≤ v1) (h2 : (v2 : Int) < v0) (h3 : (v3 : Int) = (v2 - v1)) (h4 : (9 : Int) ≤ v3) (h5 : (v4 : Int) = (v2 + 1)) : (((0 : Int) ≤ v4) ∧ ((v4 : Int) ≤ 4000)) := by omega
theorem om_b2393652c524 {v0 v1 v2 v3 v4 v5 v6 v7 v8 v9 v10 v11 : Int} (h0 : (((v0 - v1) - v2) : Int) ≤ ((v3 - v4) - v5)) (h1 : (((v6 - v7) - v8) : Int) ≤ ((v0 - v1) - v2)) (h2 : (v9 : Int) = v8) (h3 : (v10 : Int) = v6) (h4 : (v11 : Int) = v7) : (((v10 - v11) - v9) : Int) ≤ ((v3 - v4) - v5) := by omega
theorem om_b239459eb483 {v0 v1 : Int} (h0 : (v0 : Int) = 0) (h1 : (1 : Int) ≤ v1) : (v0 : Int) ≤ v1 := by omega
theorem om_b26a2f547375 {v0 v2 v4 v5 : Int} {v1 v3 : Nat} (h0 : (((v0 + (192 * ((v1 : Nat) : Int))) + 192) : Int) ≤ ((v2 + (192 * ((v3 : Nat) : Int))) + (24 * v4))) (h1 : (v5 : Int) = 0) : (((v0 + (192 * ((v1 : Nat) : Int))) + 192) : Int) ≤ (((v2 + (192 * ((v3 : Nat) : Int))) + (24 * v4)) + v5) := by omega
theorem om_b2b5778913cf {v0 : Int} (h0 : ((-1) : Int) ≤ v0) (h1 : (v0 : Int) ≤ 19) (h2 : (v0 : Int) ≠ (-1)) : ((((-1) : Int) ≤ v0) ∧ ((v0 : Int) ≤ 23)) := by omega
theorem om_b2bd9d63c970 {v0 v1 : Int} (h0 : (v0 : Int) ≤ 12) (h1 : ((-1) : Int) ≤ v1) (h2 : (v1 : Int) < v0) : ((((-1) : Int) ≤ v1) ∧ ((v1 : Int) ≤ 11)) := by omega
theorem om_b2c652736670 {v0 v1 v2 : Int} (h0 : (v0 : Int) ≤ v1) (h1 : (v1 : Int) ≤ 300) (h2 : (v2 : Int) = v0) (h3 : (0 : Int) ≤ v2) : (((0 : Int) ≤ v2) ∧ ((v2 : Int) ≤ 300)) := by omega
theorem om_b2cf528f38f4 {v0 : Int} {v1 : Nat} (h0 : (v0 : Int) ≤ 23) (h1 : (v0 : Int) = ((v1 : Nat) : Int)) : (((0 : Int) ≤ v0) ∧ ((v0 : Int) ≤ 23)) := by omega
theorem om_b2ee3cebf935 {v0 v1 v2 v3 v4 : Int} (h0 : ((v0 + 1) : Int) = v1) (h1 : (v2 : Int) = (v0 + 1)) (h2 : (v3 : Int) = v2) (h3 : (v4 : Int) = v3) : (v4 : Int) = v1 := by omega
theorem om_b308bcc79c23 {v0 : Int} (h0 : (0 : Int) ≤ v0) : (v0 : Int) ≠ (-1) := by omega
theorem om_b33b50e4915c {v0 : Int} {v1 : Nat} (h0 : (v0 : Int) ≤ 7) (h1 : ((7 - v0) : Int) ≤ ((v1 : Nat) : Int)) : ((2 + 1) : Nat) ≤ ((10 * v1) + 11) := by omega
theorem om_b35da99adc69 {v0 v2 : Int} {v1 : Nat} (h0 : ((960 - v0) : Int) < ((v1 : Nat) : Int)) (h1 : (v2 : Int) = (v0 + 1)) : ((960 - v2) : Int) < ((v1 : Nat) : Int) := by omega
theorem om_b36b2a007ba2 {v0 v1 v2 v3 : Int} (h0 : ((v0 - v1) : Int) ≤ (v2 - v3)) : ((v0 - v1) : Int) ≤ (v2 - v3) := by omega
theorem om_b38287ca5029 {v0 : Int} (h0 : (v0 : Int) = 6) (h1 : (v0 : Int) = 3) : False := by omega
theorem om_b3898fa3e17b {v0 : Int} (h0 : (152 : Int) ≤ v0) (h1 : (v0 : Int) ≤ 155) : ((((-2147483648) : Int) ≤ (v0 - 152)) ∧ (((v0 - 152) : Int) ≤ 2147483647)) := by omega
theorem om_b3def4d72315 {v1 v2 v4 : Int} {v0 v3 : Nat} (h0 : (((v0 : Nat) : Int) : Int) ≤ ((28 * v1) + 1)) (h1 : (v2 : Int) = v1) (h2 : (v3 : Nat) = (v0 + 1)) (h3 : (v4 : Int) = v2) : (((v3 : Nat) : Int) : Int) ≤ ((28 * v4) + 26) := by omega
theorem om_b3ee4c08ff11 {v0 : Int} (h0 : (v0 : Int) = 4) (h1 : (v0 : Int) = 3) : False := by omega
theorem om_b4017f2d8f07 {v1 v2 v3 : Int} {v0 : Nat} (h0 : (((v0 : Nat) : Int) : Int) = v1) (h1 : (v2 : Int) = (v1 + 1)) (h2 : (v3 : Int) = v2) : ((((v0 : Nat) : Int) + 1) : Int) = v3 := by omega
theorem om_b40e2b615867 {v0 v1 v2 : Int} (h0 : (v0 : Int) = 2) (h1 : (v1 : Int) = (v0 + (16 * v2))) : (v1 : Int) = (2 + (16 * v2)) := by omega
theorem om_b430a26e4567 {v0 v1 v2 : Int} (h0 : (v0 : Int) = 3) (h1 : (v1 : Int) = (v0 + (16 * v2))) : (v1 : Int) = (3 + (16 * v2)) := by omega
theorem om_b444819c4f50 {v0 v1 v2 v3 v4 v5 : Int} (h0 : (v0 : Int) ≤ v1) (h1 : (((v2 + v3) - v0) : Int) ≤ 999000) (h2 : (((v4 - v5) - v2) : Int) ≤ 1000000000) (h3 : (v1 : Int) ≤ 300) (h4 : (0 : Int) ≤ v3) (h5 : (v5 : Int) ≤ 3000) : (v4 : Int) ≤ 1999999999 := by omega
theorem om_b48bd8f145a6 {v0 v1 v3 v4 : Int} {v2 v5 : Nat} (h0 : (((v0 - v1) + ((v2 : Nat) : Int)) : Int) ≤ ((v3 - v4) + ((v5 : Nat) : Int))) : (((v0 - v1) + ((v2 : Nat) : Int)) : Int) ≤ ((v3 - v4) + ((v5 : Nat) : Int)) := by omega
theorem om_b4a095b2806d {v0 v1 v2 v3 v4 v5 v6 v7 v8 v9 v10 v11 v12 v13 v14 : Int} (h0 : (((v0 - v1) - v2) : Int) ≤ ((v3 - v4) - v5)) (h1 : (v6 : Int) = v2) (h2 : (v7 : Int) = v0) (h3 : (v8 : Int) = v1) (h4 : (((v9 - v10) - v11) : Int) ≤ ((v7 - v8) - v6)) (h5 : (v12 : Int) = v11) (h6 : (v13 : Int) = v10) (h7 : (v14 : Int) = v9) : (((v14 - v13) - v12) : Int) ≤ ((v3 - v4) - v5) := by omega
theorem om_b54cd86badd2 {v0 v1 v2 v3 : Int} (h0 : (0 : Int) ≤ v0) (h1 : (0 : Int) ≤ v1) (h2 : (v2 : Int) = (20 * v0)) (h3 : (v3 : Int) = (v2 + v1)) : (0 : Int) ≤ v3 := by omega
theorem om_b55e6c572286 {v0 : Int} (h0 : (v0 : Int) = 9) (h1 : (v0 : Int) = 12) : False := by omega
theorem om_b56d6683f547 {v0 : Int} (h0 : (v0 : Int) = 9) (h1 : (v0 : Int) = 15) : False := by omega
theorem om_b5c147a9b5ad {v0 v1 v3 v4 : Int} {v2 : Nat} (h0 : (v0 : Int) ≤ 299) (h1 : (0 : Int) ≤ v1) (h2 : (v1 : Int) ≤ 7) (h3 : (((v2 : Nat) : Int) : Int) = v0) (h4 : (v3 : Int) = (8 * v0)) (h5 : (v4 : Int) = (v3 + v1)) : ((((-2147483648) : Int) ≤ (24 * v4)) ∧ (((24 * v4) : Int) ≤ 2147483647)) := by omega
theorem om_b5df54a3bb43 {v0 v1 v2 : Int} (h0 : (0 : Int) ≤ v0) (h1 : ((v0 + v1) : Int) = v2) (h2 : (9 : Int) ≤ v1) : (0 : Int) ≤ v2 := by omega
theorem om_b5e2203eea92 {v0 v1 : Int} (h0 : (v0 : Int) ≤ v1) (h1 : (0 : Int) ≤ v0) (h2 : (v1 : Int) < 4000) : ((((-2147483648) : Int) ≤ (v1 + 1)) ∧ (((v1 + 1) : Int) ≤ 2147483647)) := by omega
theorem om_b5ea211f5a81 {v0 : Int} (h0 : ((-1) : Int) ≤ v0) (h1 : (v0 : Int) ≤ 23) : ((((-1) : Int) ≤ v0) ∧ ((v0 : Int) ≤ 23)) := by omega
theorem om_b5faadaf6038 {v1 v2 v4 : Int} {v0 v3 : Nat} (h0 : (((v0 : Nat) : Int) : Int) ≤ ((28 * v1) + 28)) (h1 : (v2 : Int) = (v1 + 1)) (h2 : (v3 : Nat) = (v0 + 1)) (h3 : (v4 : Int) = v2) : (((v3 : Nat) : Int) : Int) ≤ (((28 * v4) + 1) + (2 * 0)) := by omega
theorem om_b5fdb152eadb {v0 : Nat} (h0 : (v0 : Nat) ≤ 3584) : ((((-2147483648) : Int) ≤ (((v0 : Nat) : Int) - 7)) ∧ (((((v0 : Nat) : Int) - 7) : Int) ≤ 2147483647)) := by omega
theorem om_b66aae6510dc {v0 v1 : Int} (h0 : (0 : Int) ≤ v0) (h1 : (v0 : Int) ≤ 7) (h2 : (v1 : Int) = (v0 + 1)) : (((0 : Int) ≤ v1) ∧ ((v1 : Int) ≤ 8)) := by omega
theorem om_b67178ff09ea {v0 : Int} (h0 : (v0 : Int) = 15) (h1 : (v0 : Int) = 0) : False := by omega
theorem om_b687616ed6d7 {v0 : Nat} (h0 : (v0 : Nat) < 24) : ((((16 + (5 * v0)) + 1) + 4) : Nat) ≤ 148 := by omega
theorem om_b6c1b024e6af {v0 v1 v2 v3 v4 v5 : Int} (h0 : (0 : Int) ≤ v0) (h1 : (v0 : Int) ≤ 23) (h2 : (0 : Int) ≤ v1) (h3 : (v1 : Int) ≤ 7) (h4 : (0 : Int) ≤ v2) (h5 : (v2 : Int) ≤ 1) (h6 : (v3 : Int) = (24 * v2)) (h7 : (v4 : Int) = (v3 + v0)) (h8 : (v5 : Int) = (8 * v4)) : ((((-2147483648) : Int) ≤ (v5 + v1)) ∧ (((v5 + v1) : Int) ≤ 2147483647)) := by omega
theorem om_b6da0344f992 {v0 : Int} (h0 : (0 : Int) ≤ v0) (h1 : (v0 : Int) ≤ 7) : (((0 : Int) ≤ v0) ∧ ((v0 : Int) ≤ 24)) := by omega
theorem om_b6eec48dfb25 {v0 v1 v2 : Int} (h0 : (0 : Int) ≤ v0) (h1 : (v0 : Int) ≤ v1) (h2 : (v2 : Int) ≤ 40) (h3 : (v1 : Int) < v2) : ((((-2147483648) : Int) ≤ (v0 + 0)) ∧ (((v0 + 0) : Int) ≤ 2147483647)) := by omega
theorem om_b6fc4f25acfd {v0 : Int} (h0 : (0 : Int) ≤ v0) (h1 : (v0 : Int) ≤ 12) (h2 : (v0 : Int) ≠ 12) : ((((-2147483648) : Int) ≤ (v0 + 1)) ∧ (((v0 + 1) : Int) ≤ 2147483647)) := by omega
theorem om_b7494c79165e {v0 v1 v2 v3 v4 v5 v6 v7 v8 v9 v10 v11 : Int} (h0 : (v0 : Int) = v1) (h1 : (v2 : Int) = v3) (h2 : (((v4 + v5) - v6) : Int) ≤ ((v7 + v2) - v0)) (h3 : (v7 : Int) ≤ v4) (h4 : (v8 : Int) = (v6 + 1)) (h5 : (v9 : Int) = (v5 + 1)) (h6 : (v10 : Int) = v8) (h7 : (v11 : Int) = v9) : ((v11 - v3) : Int) ≤ (v10 - v1) := by omega
theorem om_b7569c957ed4 {v0 v1 v2 v3 v4 : Int} {v5 : Nat} (h0 : (v0 : Int) ≤ (2 * v1)) (h1 : (0 : Int) ≤ v0) (h2 : (v2 : Int) = v3) (h3 : ((v2 + 1) : Int) ≤ v4) (h4 : ((v1 + 1) : Int) ≤ v3) : ((((v5 : Nat) : Int) - v4) : Int) < (((v5 : Nat) : Int) + 1) := by omega
theorem om_b7bc133e65f5 {v0 v1 v2 v3 : Int} (h0 : (0 : Int) ≤ v0) (h1 : (v1 : Int) = 0) (h2 : (v2 : Int) = v1) (h3 : (v3 : Int) = v0) : (v2 : Int) ≤ v3 := by omega
theorem om_b7c757868867 {v0 v1 v2 v3 : Int} (h0 : (v0 : Int) = v1) (h1 : (v0 : Int) ≤ v2) (h2 : (v3 : Int) = (v2 + 1)) : (v1 : Int) ≤ v3 := by omega
theorem om_b7d0129991c5 {v0 v1 v2 v3 v4 v5 v6 : Int} (h0 : (0 : Int) ≤ v0) (h1 : (v1 : Int) ≤ 3000) (h2 : (v2 : Int) = 0) (h3 : (v3 : Int) = v4) (h4 : (v5 : Int) = 0) (h5 : (v6 : Int) = v2) : (((v5 - v6) - v3) : Int) ≤ (((v0 - v1) - v4) + 3000) := by omega
theorem om_b7eb86266639 {v1 : Int} {v0 : Nat} (h0 : ((((v0 : Nat) : Int) + 1) : Int) = v1) : ((((v0 : Nat) : Int) + 1) : Int) = v1 := by omega
theorem om_b827b22ef640 {v0 : Int} (h0 : (v0 : Int) = 10) : (((1 : Int) ≤ v0) ∧ ((v0 : Int) ≤ 11)) := by omega
theorem om_b82ab6f2f50e {v0 v1 v2 : Int} (h0 : (v0 : Int) ≤ 24) (h1 : (v1 : Int) = v0) (h2 : (0 : Int) ≤ v2) (h3 : (v2 : Int) < v1) : (((0 : Int) ≤ v2) ∧ ((v2 : Int) ≤ 23)) := by omega
theorem om_b8a2391ac875 {v0 v1 : Int} (h0 : (0 : Int) ≤ v0) (h1 : (v1 : Int) ≤ 4000) (h2 : (v0 : Int) < v1) : ((((-2147483648) : Int) ≤ (v0 + 1)) ∧ (((v0 + 1) : Int) ≤ 2147483647)) := by omega
theorem om_b8ab61f8c265 {v0 v1 v2 v3 : Int} (h0 : (v0 : Int) = (v1 + 1)) (h1 : (0 : Int) ≤ v1) (h2 : (v2 : Int) ≤ 8200) (h3 : (v0 : Int) < v2) (h4 : (v3 : Int) = (v0 + 1)) : (((0 : Int) ≤ v3) ∧ ((v3 : Int) ≤ 2147483647)) := by omega
theorem om_b8f62b70be9c {v0 : Int} {v1 v2 : Nat} (h0 : ((300 - v0) : Int) ≤ ((v1 : Nat) : Int)) (h1 : (v0 : Int) ≤ 300) : ((0 + 1) : Nat) ≤ (((4 * v1) + (40 * v2)) + 13) := by omega
theorem om_b8feb74b573b {v0 : Int} (h0 : (v0 : Int) = 134) : (v0 : Int) ≠ 0 := by omega
theorem om_b91cb2530a91 {v0 v1 v2 v3 : Int} (h0 : ((v0 - v1) : Int) ≤ (2 * (v2 - v3))) : ((v0 - v1) : Int) ≤ (2 * (v2 - v3)) := by omega
theorem om_b95761800ec5 {v0 v2 : Int} {v1 v3 : Nat} (h0 : (v0 : Int) ≤ ((v1 : Nat) : Int)) (h1 : (v1 : Nat) = 12) (h2 : (v2 : Int) < v0) (h3 : (((v3 : Nat) : Int) : Int) = v2) : (v3 : Nat) < 12 := by omega
theorem om_b95941a967f6 {v0 : Int} {v1 : Nat} (h0 : ((v0 + (400 * ((v1 : Nat) : Int))) : Int) ≤ 19000) : ((v0 + (400 * ((v1 : Nat) : Int))) : Int) ≤ 19000 := by omega
theorem om_b9e38e94e1db {v0 : Int} {v1 : Nat} (h0 : ((12 - v0) : Int) ≤ ((v1 : Nat) : Int)) : ((12 - v0) : Int) ≤ ((v1 : Nat) : Int) := by omega
theorem om_b9fc0ccd97d0 {v1 : Int} {v0 : Nat} (h0 : (((v0 : Nat) : Int) : Int) = v1) (h1 : (v1 : Int) ≤ 47) : (v0 : Nat) < 48 := by omega
theorem om_ba20663fa7a6 {v0 v1 v2 : Int} (h0 : (0 : Int) ≤ v0) (h1 : (v0 : Int) ≤ v1) (h2 : (v2 : Int) ≤ 12) (h3 : (v1 : Int) < v2) : ((((-2147483648) : Int) ≤ (v0 + 1)) ∧ (((v0 + 1) : Int) ≤ 2147483647)) := by omega
theorem om_ba3871b8907e {v0 v1 v2 v3 v4 v5 v6 v7 v8 : Int} (h0 : (v0 : Int) = (v1 + 1)) (h1 : (v2 : Int) = v0) (h2 : (v3 : Int) = v4) (h3 : ((v5 - v3) : Int) ≤ (v6 - v2)) (h4 : (v7 : Int) = v6) (h5 : (v8 : Int) = v5) : ((v8 - v4) : Int) ≤ (v7 - v1) := by omega
theorem om_ba6387949cf8 {v0 v1 : Int} (h0 : (v0 : Int) = (v1 - 1)) : (v0 : Int) ≤ (v1 - 1) := by omega
theorem om_ba873a6da76b {v0 : Int} (h0 : (v0 : Int) = 7) : (v0 : Int) = 7 := by omega
theorem om_ba9803c062a2 {v0 : Int} (h0 : (0 : Int) ≤ v0) (h1 : (v0 : Int) < 340) : ((((-2147483648) : Int) ≤ (v0 + 1)) ∧ (((v0 + 1) : Int) ≤ 2147483647)) := by omega
theorem om_baeac38cc173 {v0 v1 v2 v3 : Int} (h0 : (v0 : Int) = v1) (h1 : (v2 : Int) = v3) (h2 : (0 : Int) ≤ v3) (h3 : (v3 : Int) < v1) : (((0 : Int) ≤ v2) ∧ ((v2 : Int) < v0)) := by omega
theorem om_baf96cc899d5 {v0 v1 v2 v3 v4 : Int} {v5 : Nat} (h0 : (v0 : Int) = 0) (h1 : (0 : Int) ≤ v1) (h2 : (v2 : Int) = v3) (h3 : ((v1 + 1) : Int) ≤ v3) (h4 : (v4 : Int) ≤ ((v5 : Nat) : Int)) (h5 : (v2 : Int) ≤ v4) : (((0 : Int) ≤ v4) ∧ ((((v4 : Int) ≤ ((v5 : Nat) : Int)) ∧ ((((v0 : Int) = 0) ∧ (((v1 + 1) : Int) ≤ v4)))))) := by omega
theorem om_bb3c7d5f5bac {v0 v1 v2 v3 : Int} (h0 : (v0 : Int) ≤ 40) (h1 : (0 : Int) ≤ v1) (h2 : (v1 : Int) ≤ v2) (h3 : (v2 : Int) < v0) (h4 : (v3 : Int) = (v2 + 1)) : (((0 : Int) ≤ v3) ∧ ((v3 : Int) ≤ 40)) := by omega
theorem om_bb4bde652b63 {v0 : Nat} : ((0 + 1) : Nat) ≤ ((10 * v0) + 10) := by omega
theorem om_bb58a60fcee7 {v0 v1 : Int} (h0 : (v0 : Int) ≤ 8060) (h1 : (v1 : Int) = v0) : (v1 : Int) ≤ 8120 := by omega
theorem om_bb6563b3cba5 {v0 v1 : Int} (h0 : (v0 : Int) ≤ 7) (h1 : (0 : Int) ≤ v0) (h2 : (v1 : Int) = v0) : ((((-2147483648) : Int) ≤ (v1 + 1)) ∧ (((v1 + 1) : Int) ≤ 2147483647)) := by omega
theorem om_bb6d5a6aa1c4 {v0 v1 v2 : Int} (h0 : (0 : Int) ≤ v0) (h1 : (v0 : Int) ≤ 1) (h2 : (v1 : Int) ≤ 11) (h3 : (0 : Int) ≤ v1) (h4 : (v2 : Int) = (12 * v0)) : ((((-2147483648) : Int) ≤ (v2 + v1)) ∧ (((v2 + v1) : Int) ≤ 2147483647)) := by omega
theorem om_bb80f9d36154 {v0 v1 v2 : Int} (h0 : (v0 : Int) = (v1 - 1)) (h1 : (v2 : Int) = v0) : (v2 : Int) = (v1 - 1) := by omega
theorem om_bba00cc93c07 {v1 : Int} {v0 v2 : Nat} (h0 : (((v0 : Nat) : Int) : Int) ≤ (((28 * v1) + 24) - ((v2 : Nat) : Int))) : (((v0 : Nat) : Int) : Int) ≤ (((28 * v1) + 24) - ((v2 : Nat) : Int)) := by omega
theorem om_bc0d5f6b8c05 {v0 : Nat} : (((8 + (2 + 11)) + ((300 * v0) + 300)) : Nat) ≤ ((300 * v0) + 340) := by omega
theorem om_bc2df6e8a311 {v0 : Int} (h0 : (v0 : Int) = 3) (h1 : (v0 : Int) ≠ 3) : False := by omega
theorem om_bc4eeef16aa3 {v0 v1 : Nat} : ((12 * v0) : Nat) ≤ ((12 * v0) + v1) := by omega
theorem om_bc7ada4eac13 {v0 : Nat} : (((8 + (2 + 11)) + 0) : Nat) ≤ ((300 * v0) + 150) := by omega
theorem om_bc7fa03df498 {v0 v1 v2 v3 v4 v5 v6 v7 v8 : Int} (h0 : (v0 : Int) ≤ v1) (h1 : (v2 : Int) = (v1 + 1)) (h2 : (v3 : Int) = v2) (h3 : (v4 : Int) = v0) (h4 : ((v5 - v4) : Int) ≤ (v6 - v3)) (h5 : ((v7 - v5) : Int) ≤ (v8 - v6)) (h6 : (v8 : Int) ≤ 300) (h7 : (0 : Int) ≤ v7) : (((0 : Int) ≤ v7) ∧ ((v7 : Int) ≤ 300)) := by omega
theorem om_bc9106cf44c9 {v0 : Int} (h0 : (0 : Int) ≤ v0) (h1 : (v0 : Int) < 24) : ((((-2147483648) : Int) ≤ (v0 + 1)) ∧ (((v0 + 1) : Int) ≤ 2147483647)) := by omega
theorem om_bcbb45db8cb1 {v1 v3 : Int} {v0 v2 : Nat} (h0 : (((v0 : Nat) : Int) : Int) ≤ (((28 * v1) + 24) - ((v2 : Nat) : Int))) (h1 : (v3 : Int) = v1) : (((v0 : Nat) : Int) : Int) ≤ (((28 * v3) + 24) - ((v2 : Nat) : Int)) := by omega
theorem om_bcda7a344117 {v0 v2 v3 : Int} {v1 : Nat} (h0 : (v0 : Int) = ((v1 : Nat) : Int)) (h1 : (v2 : Int) < v0) (h2 : (v3 : Int) = (v2 + 1)) : (v3 : Int) ≤ ((v1 : Nat) : Int) := by omega
theorem om_bcdf06409ba2 {v0 v1 v2 : Int} (h0 : (v0 : Int) ≤ v1) (h1 : (v2 : Int) = (v0 + 1)) : (v2 : Int) ≤ (v1 + 1) := by omega
theorem om_bcf072f18d8c {v0 : Int} (h0 : (v0 : Int) ≤ 6) (h1 : (v0 : Int) = 6) : (((0 : Int) ≤ v0) ∧ ((v0 : Int) ≤ 6)) := by omega
theorem om_bd3e92610e5a {v0 : Int} {v1 : Nat} (h0 : ((v0 + ((v1 : Nat) : Int)) : Int) = 8) (h1 : (0 : Int) ≤ v0) : ((((-2147483648) : Int) ≤ (v0 + 1)) ∧ (((v0 + 1) : Int) ≤ 2147483647)) := by omega
theorem om_bd76c262a33d {v1 : Int} {v0 : Nat} (h0 : (((v0 : Nat) : Int) : Int) ≤ ((28 * v1) + 1)) (h1 : (v1 : Int) ≤ 10) : (v0 : Nat) ≤ 394 := by omega
theorem om_bd76cb3bf431 {v0 : Nat} : ((((10 * v0) + 10) + 1) : Nat) ≤ ((10 * v0) + 15) := by omega
theorem om_bd836f9cd374 {v0 v1 : Nat} : (((((404 + (1422 - v0)) + v1) + 0) + 0) : Nat) ≤ ((404 + (1422 - v0)) + (v1 + 1)) := by omega
theorem om_bdb438930895 {v0 v1 : Int} (h0 : (v0 : Int) = 3) (h1 : (v1 : Int) = v0) : (v1 : Int) ≠ 0 := by omega
theorem om_bdc49d49ea67 {v0 : Int} {v1 : Nat} (h0 : (0 : Int) ≤ v0) (h1 : (((v1 : Nat) : Int) : Int) = v0) (h2 : (v1 : Nat) < 24) : ((((-1) : Int) ≤ v0) ∧ ((v0 : Int) ≤ 23)) := by omega
theorem om_bdc5abfb76ed {v0 v1 v2 v3 v4 v5 v6 v7 v8 v9 : Int} (h0 : (v0 : Int) = v1) (h1 : (v2 : Int) = v3) (h2 : (v4 : Int) = v5) (h3 : (v6 : Int) = v7) (h4 : ((v7 - v0) : Int) ≤ (v5 - v2)) (h5 : ((v8 - v6) : Int) ≤ (v9 - v4)) : ((v8 - v1) : Int) ≤ (v9 - v3) := by omega
theorem om_bdfb2f662d09 {v0 : Int} {v1 v2 : Nat} (h0 : ((10 - v0) : Int) ≤ ((v1 : Nat) : Int)) (h1 : (v0 : Int) ≤ 10) : (((8 + (5 + 11)) + 45) : Nat) ≤ (((100 * v2) + (1000 * v1)) + 350) := by omega
theorem om_be092901ff5d {v0 : Int} (h0 : (v0 : Int) = 4) (h1 : (v0 : Int) = 14) : False := by omega
theorem om_be3b189e44b6 {v0 : Int} (h0 : (v0 : Int) = 0) (h1 : (v0 : Int) ≠ 1) (h2 : (v0 : Int) = 1) : False := by omega
theorem om_be9b7bdfab02 {v0 v1 v2 : Int} (h0 : (((v0 - v1) - v2) : Int) ≤ 1000000000) : (((v0 - v1) - v2) : Int) ≤ 1000000000 := by omega
theorem om_bed844d0455d {v0 : Int} {v1 : Nat} (h0 : (v0 : Int) = ((v1 : Nat) : Int)) (h1 : (v0 : Int) = 3) : (v1 : Nat) = 3 := by omega
theorem om_bee8ef8ad682 {v0 : Nat} (h0 : (v0 : Nat) < 24) : ((((8394 + (57 * v0)) + 13) + 44) : Nat) ≤ 9822 := by omega
theorem om_bf276519c689 {v0 v1 v2 v3 v4 v5 : Int} (h0 : (((v0 + v1) - v2) : Int) ≤ 999000) (h1 : (((v3 + v4) - v5) : Int) ≤ ((v0 + v1) - v2)) : (((v3 + v4) - v5) : Int) ≤ 999000 := by omega
theorem om_bf2beb62232e {v0 : Int} (h0 : (v0 : Int) = 0) (h1 : (0 : Int) < v0) : False := by omega
theorem om_bf3233e0524e {v0 : Int} (h0 : (v0 : Int) = 10) (h1 : (v0 : Int) = 15) : False := by omega
theorem om_bf3bac4c632a {v0 : Int} {v1 : Nat} (h0 : ((24 - v0) : Int) ≤ ((v1 : Nat) : Int)) (h1 : (v0 : Int) < 24) : (((8 + (4 + 11)) + 78) : Nat) ≤ ((300 * v1) + 260) := by omega
theorem om_bf3d98df3a8e {v0 v2 : Int} {v1 : Nat} (h0 : (v0 : Int) ≤ ((v1 : Nat) : Int)) (h1 : (v1 : Nat) = 24) (h2 : (0 : Int) ≤ v2) (h3 : (v2 : Int) < v0) : (((0 : Int) ≤ v2) ∧ ((v2 : Int) ≤ 23)) := by omega
theorem om_bfa82d19a49b {v2 : Int} {v0 v1 : Nat} (h0 : (v0 : Nat) ≤ 24) (h1 : (((v1 : Nat) : Int) : Int) = v2) (h2 : (v1 : Nat) < v0) : ((((-2147483648) : Int) ≤ (v2 + 1)) ∧ (((v2 + 1) : Int) ≤ 2147483647)) := by omega
theorem om_bfad6eb971f3 {v0 v2 v4 : Int} {v1 v3 : Nat} (h0 : ((300 - v0) : Int) ≤ ((v1 : Nat) : Int)) (h1 : ((10 - v2) : Int) ≤ ((v3 : Nat) : Int)) (h2 : (v0 : Int) ≤ 300) (h3 : (v4 : Int) = v2) (h4 : (v4 : Int) ≤ 10) : (((8 + (2 + 11)) + 0) : Nat) ≤ (((100 * v1) + (1000 * v3)) + 410) := by omega
theorem om_bfbc4fe22ecf {v0 v1 v2 v3 v4 v5 v6 v7 v8 v9 v10 v11 : Int} (h0 : (v0 : Int) ≤ v1) (h1 : (((v2 + v3) - v0) : Int) ≤ 999000) (h2 : (((v4 - v5) - v2) : Int) ≤ 1000000000) (h3 : (0 : Int) ≤ v3) (h4 : ((v6 - v0) : Int) ≤ (v7 - v1)) (h5 : (((v8 + v9) - v6) : Int) ≤ ((v2 + v3) - v0)) (h6 : (v9 : Int) = v3) (h7 : (((v10 - v11) - v8) : Int) ≤ ((v4 - v5) - v2)) (h8 : (v7 : Int) ≤ 300) (h9 : (v11 : Int) ≤ 3000) : (v10 : Int) ≤ 1999999999 := by omega
theorem om_bff1431baab4 {v0 v1 v2 : Int} (h0 : (1 : Int) ≤ v0) (h1 : (v0 : Int) ≤ 40) (h2 : (v0 : Int) ≠ 40) (h3 : (0 : Int) ≤ v1) (h4 : (v1 : Int) < 24) (h5 : (v2 : Int) = (24 * v0)) : ((((-2147483648) : Int) ≤ (v2 + v1)) ∧ (((v2 + v1) : Int) ≤ 2147483647)) := by omega
theorem om_bff6d9a49583 {v0 v1 v2 v3 v4 v5 : Int} (h0 : (v0 : Int) = v1) (h1 : (v2 : Int) = v3) (h2 : (v4 : Int) = v5) : (((v2 + v4) - v0) : Int) ≤ ((v3 + v5) - v1) := by omega
theorem om_bffe64fda172 {v0 v1 v2 : Int} (h0 : (0 : Int) ≤ v0) (h1 : (v0 : Int) ≤ v1) (h2 : (v2 : Int) ≤ 300) (h3 : (v1 : Int) < v2) : ((((-2147483648) : Int) ≤ (v0 + 0)) ∧ (((v0 + 0) : Int) ≤ 2147483647)) := by omega
theorem om_c078ef78e547 {v0 : Int} (h0 : (1 : Int) ≤ v0) : (0 : Int) ≤ v0 := by omega
theorem om_c09ff01990d3 {v0 v1 : Int} (h0 : (0 : Int) ≤ v0) (h1 : (v1 : Int) ≤ 300) (h2 : (v0 : Int) < v1) : ((((-2147483648) : Int) ≤ (v0 + 1)) ∧ (((v0 + 1) : Int) ≤ 2147483647)) := by omega
theorem om_c0c2ba813b07 {v0 : Int} (h0 : (0 : Int) ≤ v0) (h1 : (v0 : Int) ≤ 60000) (h2 : (v0 : Int) ≠ 60000) : ((((-2147483648) : Int) ≤ (v0 + 1)) ∧ (((v0 + 1) : Int) ≤ 2147483647)) := by omega
theorem om_c0d8f85437fe {v0 v1 v2 v3 v4 : Int} (h0 : (v0 : Int) = v1) (h1 : (v2 : Int) = v0) (h2 : (v3 : Int) ≤ (8049 - (6 * v2))) (h3 : (v4 : Int) = (v3 + 1)) : (v4 : Int) ≤ (8050 - (6 * v1)) := by omega
theorem om_c0f1bb3a6635 {v0 : Int} (h0 : (0 : Int) ≤ v0) (h1 : (v0 : Int) = 0) : (((0 : Int) ≤ v0) ∧ ((v0 : Int) ≤ 70000)) := by omega
theorem om_c168f93d3c44 {v0 : Int} (h0 : (0 : Int) ≤ v0) (h1 : (v0 : Int) ≤ 16777215) (h2 : (v0 : Int) ≠ 0) : (((0 : Int) ≤ v0) ∧ ((v0 : Int) ≤ 16777215)) := by omega
theorem om_c193b4947be9 {v0 v2 v3 v4 v6 v7 v9 : Int} {v1 v5 v8 : Nat} (h0 : (((v0 + (192 * ((v1 : Nat) : Int))) + 192) : Int) ≤ ((v2 + (24 * v3)) + v4)) (h1 : (v5 : Nat) = v1) (h2 : (v6 : Int) = v0) (h3 : ((v7 + (192 * ((v8 : Nat) : Int))) : Int) ≤ (v6 + (192 * ((v5 : Nat) : Int)))) (h4 : (v9 : Int) = (v4 + 1)) : (((v7 + (192 * ((v8 : Nat) : Int))) + 192) : Int) ≤ ((v2 + (24 * v3)) + v9) := by omega
theorem om_c1a40f7cdd15 {v1 v2 v4 : Int} {v0 v3 : Nat} (h0 : (((v0 : Nat) : Int) : Int) ≤ ((28 * v1) + 25)) (h1 : (v2 : Int) = v1) (h2 : (v3 : Nat) = (v0 + 1)) (h3 : (v4 : Int) = v2) : (((v3 : Nat) : Int) : Int) ≤ ((28 * v4) + 26) := by omega
theorem om_c1fa050e69fd {v0 v1 v2 : Int} (h0 : (v0 : Int) ≤ 4000) (h1 : (0 : Int) ≤ v1) (h2 : (v1 : Int) ≤ v2) (h3 : (v2 : Int) < v0) : (((0 : Int) ≤ v1) ∧ ((v1 : Int) ≤ 4000)) := by omega
theorem om_c25891ec9849 {v0 v1 v2 : Int} {v3 : Nat} (h0 : (0 : Int) ≤ v0) (h1 : (v1 : Int) = v2) (h2 : (v2 : Int) ≤ ((v3 : Nat) : Int)) (h3 : ((v0 + 1) : Int) ≤ v2) : (((0 : Int) ≤ v1) ∧ ((v1 : Int) ≤ ((v3 : Nat) : Int))) := by omega
theorem om_c28235b0523b {v0 v1 : Int} (h0 : (v0 : Int) ≤ (8049 - (6 * v1))) : (v0 : Int) ≤ (8050 - (6 * v1)) := by omega
theorem om_c295b38757cd {v0 : Int} {v1 v2 : Nat} (h0 : (v0 : Int) = ((((10000 * v1) + v2) : Nat) : Int)) : (v0 : Int) = ((((10000 * v1) + v2) : Nat) : Int) := by omega
theorem om_c29ac0d04c46 {v0 v1 : Int} (h0 : (v0 : Int) ≤ 11) (h1 : (0 : Int) ≤ v0) (h2 : (v1 : Int) = (v0 + (-1))) : ((((-1) : Int) ≤ v1) ∧ ((v1 : Int) ≤ 11)) := by omega
theorem om_c2c1a304a74c {v0 v2 : Int} {v1 : Nat} (h0 : ((v0 + ((v1 : Nat) : Int)) : Int) = 8) (h1 : (v2 : Int) = v0) : (v2 : Int) ≤ 8 := by omega
theorem om_c2c1a5771e77 {v0 : Nat} : ((((10 * v0) + 13) + 1) : Nat) ≤ ((10 * v0) + 15) := by omega
theorem om_c2f102b001fa {v0 v1 v2 v3 v4 v5 v6 v7 v8 v9 v10 v11 v12 v13 v14 : Int} (h0 : (((v0 - v1) - v2) : Int) ≤ ((v3 - v4) - v5)) (h1 : (v6 : Int) = v2) (h2 : (v7 : Int) = v0) (h3 : (v8 : Int) = v1) (h4 : (((v9 - v10) - v11) : Int) ≤ ((v7 - v8) - v6)) (h5 : (v12 : Int) = v11) (h6 : (v13 : Int) = v9) (h7 : (v14 : Int) = v10) : (((v13 - v14) - v12) : Int) ≤ ((v3 - v4) - v5) := by omega
theorem om_c3039c83a164 {v0 v1 v2 v3 v4 v5 : Int} (h0 : (v0 : Int) ≤ v1) (h1 : (v2 : Int) = v1) (h2 : (v3 : Int) = v0) (h3 : ((v4 - v3) : Int) ≤ (v5 - v2)) (h4 : (v5 : Int) ≤ 300) (h5 : (0 : Int) ≤ v4) : (((0 : Int) ≤ v4) ∧ ((v4 : Int) ≤ 300)) := by omega
theorem om_c3256b130b8f {v0 v1 : Int} (h0 : (v0 : Int) ≤ (8050 - (6 * v1))) : (v0 : Int) ≤ (8050 - (6 * v1)) := by omega
theorem om_c36fd4a9fcac {v1 v3 : Int} {v0 v2 : Nat} (h0 : ((((v0 : Nat) : Int) + 1) : Int) = v1) (h1 : (v2 : Nat) = v0) (h2 : (v3 : Int) = v1) : (1 : Int) ≤ v3 := by omega
theorem om_c3827059abd0 {v0 v2 v4 v5 v6 : Int} {v1 v3 : Nat} (h0 : (0 : Int) ≤ v0) (h1 : (v0 : Int) = ((v1 : Nat) : Int)) (h2 : (v2 : Int) = ((v3 : Nat) : Int)) (h3 : (v1 : Nat) ≤ v3) (h4 : (v4 : Int) ≤ 24) (h5 : (v2 : Int) < v4) (h6 : (v5 : Int) = (v2 - v0)) (h7 : (v6 : Int) = (v5 + 1)) : ((((-100) : Int) ≤ v6) ∧ ((v6 : Int) ≤ 24)) := by omega
theorem om_c3b61c06432f {v0 v1 : Int} (h0 : (v0 : Int) = v1) : (v0 : Int) ≤ (v1 + 1) := by omega
theorem om_c3ca88dd3349 {v0 v1 v2 : Int} (h0 : (v0 : Int) ≤ 12) (h1 : (0 : Int) ≤ v1) (h2 : (v1 : Int) < v0) (h3 : (v2 : Int) = (v1 + 1)) : (((0 : Int) ≤ v2) ∧ ((v2 : Int) ≤ 12)) := by omega
theorem om_c40dd4f8ab88 {v0 v2 : Int} {v1 v3 : Nat} (h0 : (v0 : Int) ≤ ((v1 : Nat) : Int)) (h1 : (v1 : Nat) = 24) (h2 : (v2 : Int) < v0) (h3 : (((v3 : Nat) : Int) : Int) = v2) : (((0 : Int) ≤ v2) ∧ ((v2 : Int) ≤ 23)) := by omega
theorem om_c42a938ab22c {v0 v1 v4 v5 : Int} {v2 v3 : Nat} (h0 : (0 : Int) ≤ v0) (h1 : (v1 : Int) ≤ 23) (h2 : (v0 : Int) = ((v2 : Nat) : Int)) (h3 : (v1 : Int) = ((v3 : Nat) : Int)) (h4 : (v2 : Nat) ≤ v3) (h5 : (v4 : Int) = (v1 - v0)) (h6 : (v5 : Int) = (v4 + 1)) : ((((-100) : Int) ≤ v5) ∧ ((v5 : Int) ≤ 24)) := by omega
theorem om_c441fb90eac3 {v0 : Int} {v1 : Nat} (h0 : (v0 : Int) = ((v1 : Nat) : Int)) : (0 : Int) ≤ v0 := by omega
theorem om_c44c09625d4d {v0 v1 : Int} (h0 : (0 : Int) ≤ v0) (h1 : (v0 : Int) ≤ 1) (h2 : (v1 : Int) = (24 * v0)) : (((0 : Int) ≤ v1) ∧ ((v1 : Int) ≤ 24)) := by omega
theorem om_c49adfa82315 {v0 v1 v2 : Int} (h0 : (v0 : Int) ≤ 40) (h1 : (0 : Int) ≤ v1) (h2 : (v1 : Int) ≤ v2) (h3 : (v2 : Int) < v0) : ((((-2147483648) : Int) ≤ (v1 + 0)) ∧ (((v1 + 0) : Int) ≤ 2147483647)) := by omega
theorem om_c4e1e142d663 {v0 : Int} {v1 v2 : Nat} (h0 : (v0 : Int) = ((v1 : Nat) : Int)) (h1 : (((v2 : Nat) : Int) : Int) = v0) : (v2 : Nat) = v1 := by omega
theorem om_c4f4e99e1e6b {v0 : Int} (h0 : (0 : Int) ≤ v0) (h1 : (v0 : Int) < 2048) : ((((-2147483648) : Int) ≤ (v0 + 1)) ∧ (((v0 + 1) : Int) ≤ 2147483647)) := by omega
theorem om_c51a6401fccc {v0 : Int} (h0 : (0 : Int) ≤ v0) (h1 : (v0 : Int) ≤ 16777215) : (((0 : Int) ≤ v0) ∧ ((v0 : Int) ≤ 16777215)) := by omega
theorem om_c524afd7f61f {v0 : Int} (h0 : (0 : Int) ≤ v0) (h1 : (v0 : Int) ≤ 39) : ((((-2147483648) : Int) ≤ (24 * v0)) ∧ (((24 * v0) : Int) ≤ 2147483647)) := by omega
theorem om_c5e2a7be7515 {v0 v1 v2 v3 v4 v5 v6 : Int} (h0 : (((v0 - v1) - v2) : Int) ≤ 1000000000) (h1 : (v3 : Int) = v2) (h2 : (v4 : Int) = v0) (h3 : (v5 : Int) = v6) (h4 : (v6 : Int) = (v1 + 1)) : (((v4 - v5) - v3) : Int) ≤ 1000000000 := by omega
theorem om_c5e64f00e272 {v0 v1 : Int} (h0 : (1 : Int) ≤ v0) (h1 : (v0 : Int) ≤ 40) (h2 : (v0 : Int) ≠ 40) (h3 : (v1 : Int) = (v0 + 1)) : ((((-2147483648) : Int) ≤ (v1 - 1)) ∧ (((v1 - 1) : Int) ≤ 2147483647)) := by omega
theorem om_c6235c800f78 {v0 v2 v4 : Int} {v1 v3 : Nat} (h0 : (v0 : Int) = ((v1 : Nat) : Int)) (h1 : (v1 : Nat) ≤ 24) (h2 : (v2 : Int) < v0) (h3 : (((v3 : Nat) : Int) : Int) = v2) (h4 : (v4 : Int) = (v2 + 1)) : (((0 : Int) ≤ v4) ∧ ((v4 : Int) ≤ 24)) := by omega
theorem om_c6436a8b55fb {v0 v2 : Int} {v1 : Nat} (h0 : (v0 : Int) ≤ 1) (h1 : (((v1 : Nat) : Int) : Int) = v2) (h2 : (v2 : Int) = v0) : (((10000 * ((v1 : Nat) : Int)) + 10000) : Int) ≤ 20000 := by omega
theorem om_c66f1b494bd9 {v1 : Int} {v0 : Nat} (h0 : ((((v0 : Nat) : Int) + 1) : Int) = v1) : (0 : Int) ≤ v1 := by omega
theorem om_c6c0086499f2 {v0 v2 v4 v5 v6 : Int} {v1 v3 : Nat} (h0 : (((v0 + (192 * ((v1 : Nat) : Int))) + 192) : Int) ≤ (((v2 + (192 * ((v3 : Nat) : Int))) + (24 * v4)) + v5)) (h1 : (v6 : Int) = (v5 + 1)) : (((v0 + (192 * ((v1 : Nat) : Int))) + 192) : Int) ≤ (((v2 + (192 * ((v3 : Nat) : Int))) + (24 * v4)) + v6) := by omega
theorem om_c6d2a4abb0c2 {v0 v2 v3 : Int} {v1 : Nat} (h0 : (v0 : Int) = ((v1 : Nat) : Int)) (h1 : (v1 : Nat) ≤ 24) (h2 : (v2 : Int) ≤ (8 * v3)) (h3 : (v3 : Int) < v0) : (v2 : Int) ≤ 999000 := by omega
theorem om_c6f56d59620b {v0 v2 v3 : Int} {v1 : Nat} (h0 : (v0 : Int) = ((v1 : Nat) : Int)) (h1 : (v1 : Nat) ≤ 24) (h2 : (0 : Int) ≤ v2) (h3 : (v2 : Int) ≤ v3) (h4 : (v3 : Int) < v0) : ((((-2147483648) : Int) ≤ (v0 - v2)) ∧ (((v0 - v2) : Int) ≤ 2147483647)) := by omega
theorem om_c7103e519a6e {v0 v1 : Int} {v2 : Nat} (h0 : (0 : Int) ≤ v0) (h1 : (v1 : Int) ≤ ((v2 : Nat) : Int)) (h2 : (v2 : Nat) = 24) (h3 : (v0 : Int) < v1) : ((((-2147483648) : Int) ≤ (v0 + 1)) ∧ (((v0 + 1) : Int) ≤ 2147483647)) := by omega
theorem om_c712b5043f67 {v0 v1 v2 v3 v4 v5 v6 v7 v8 : Int} (h0 : (v0 : Int) = (v1 + 1)) (h1 : (v2 : Int) = v3) (h2 : (v4 : Int) = v5) (h3 : (((v6 - v7) - v8) : Int) ≤ ((v0 - v4) - v2)) : (((v6 - v7) - v8) : Int) ≤ (((v1 - v5) - v3) + 1) := by omega
theorem om_c71b06041e8c {v0 : Int} (h0 : (v0 : Int) = 2) (h1 : (v0 : Int) = 12) : False := by omega
theorem om_c7296700d4dd {v0 v1 : Int} (h0 : (0 : Int) ≤ v0) (h1 : (v0 : Int) ≤ 1) (h2 : (v1 : Int) = (20 * v0)) : (((0 : Int) ≤ v1) ∧ ((v1 : Int) ≤ 24)) := by omega
theorem om_c759f2b33fec {v0 v2 : Int} {v1 : Nat} (h0 : ((300 - v0) : Int) ≤ ((v1 : Nat) : Int)) (h1 : (v2 : Int) = v0) : ((300 - v2) : Int) ≤ ((v1 : Nat) : Int) := by omega
theorem om_c7b360c04862 {v0 v3 : Int} {v1 v2 : Nat} (h0 : (v0 : Int) = ((v1 : Nat) : Int)) (h1 : (v1 : Nat) ≤ 24) (h2 : (v2 : Nat) < v1) (h3 : (0 : Int) ≤ v3) (h4 : (v3 : Int) ≤ ((v2 : Nat) : Int)) : ((((-2147483648) : Int) ≤ (v0 - v3)) ∧ (((v0 - v3) : Int) ≤ 2147483647)) := by omega
theorem om_c7b5e7b90639 {v0 : Int} (h0 : (0 : Int) ≤ v0) (h1 : (v0 : Int) ≤ 300) : (((0 : Int) ≤ v0) ∧ ((v0 : Int) ≤ 300)) := by omega
theorem om_c7b799122141 {v0 v2 v3 v4 v5 : Int} {v1 : Nat} (h0 : (v0 : Int) = ((v1 : Nat) : Int)) (h1 : (v2 : Int) ≤ 4000) (h2 : ((v0 + v3) : Int) = v4) (h3 : (v4 : Int) < v2) (h4 : (9 : Int) ≤ v3) (h5 : (v5 : Int) = (v3 + 1)) : (((0 : Int) ≤ v5) ∧ ((v5 : Int) ≤ 4000)) := by omega
theorem om_c7c176fe56c4 {v1 v2 v3 v4 v5 : Int} {v0 : Nat} (h0 : (((v0 : Nat) : Int) : Int) = v1) (h1 : (v2 : Int) = (10000 * ((v0 : Nat) : Int))) (h2 : (v2 : Int) ≤ 10000) (h3 : (v3 : Int) = (24 * v1)) (h4 : (0 : Int) ≤ v4) (h5 : (v4 : Int) ≤ 24) (h6 : (v5 : Int) = (v3 + v4)) (h7 : (v4 : Int) ≠ 24) : ((((-2147483648) : Int) ≤ (20 * v5)) ∧ (((20 * v5) : Int) ≤ 2147483647)) := by omega
theorem om_c7c513f8a5c3 {v0 : Int} {v1 : Nat} (h0 : (v0 : Int) ≤ 23) (h1 : (((v1 : Nat) : Int) : Int) = v0) : (v1 : Nat) < 24 := by omega
theorem om_c7c83dde3bc9 {v0 : Nat} : ((((10 * v0) + 8) + 1) : Nat) ≤ ((10 * v0) + 9) := by omega
theorem om_c816a732cb1e {v0 v1 v2 v3 : Int} (h0 : (v0 : Int) ≤ 24) (h1 : (0 : Int) ≤ v1) (h2 : (v1 : Int) < v2) (h3 : (v3 : Int) = v2) (h4 : (v3 : Int) = v0) : ((((-2147483648) : Int) ≤ (v1 + 1)) ∧ (((v1 + 1) : Int) ≤ 2147483647)) := by omega
theorem om_c81a6e99e33f {v0 : Int} {v1 : Nat} (h0 : (v0 : Int) ≤ 24) (h1 : (v0 : Int) = ((v1 : Nat) : Int)) : ((((-100) : Int) ≤ v0) ∧ ((v0 : Int) ≤ 24)) := by omega
theorem om_c861051d8bdf {v0 : Int} (h0 : (v0 : Int) = 10) (h1 : (v0 : Int) = 3) : False := by omega
theorem om_c8989bf9160c {v0 v1 v2 v3 : Int} (h0 : (0 : Int) ≤ v0) (h1 : (v0 : Int) ≤ 24) (h2 : (v1 : Int) ≤ 4) (h3 : (0 : Int) ≤ v2) (h4 : (v2 : Int) < v1) (h5 : (v3 : Int) = (v0 + v2)) : (((0 : Int) ≤ v3) ∧ ((v3 : Int) ≤ 29)) := by omega
theorem om_c8e08cca8d6c {v0 v1 v2 v3 : Int} (h0 : (v0 : Int) ≤ v1) (h1 : (((v2 + v3) - v0) : Int) ≤ 999000) (h2 : (v1 : Int) ≤ 300) (h3 : (0 : Int) ≤ v3) (h4 : (300 : Int) ≤ v2) : ((((-2147483648) : Int) ≤ (v2 + 1)) ∧ (((v2 + 1) : Int) ≤ 2147483647)) := by omega
theorem om_c8ebd92074a9 {v0 v1 v2 v3 v4 v5 v6 v7 v8 v9 v10 v11 : Int} (h0 : (((v0 - v1) - v2) : Int) ≤ ((v3 - v4) - v5)) (h1 : (v6 : Int) = (v0 + 1)) (h2 : (v7 : Int) = v2) (h3 : (v8 : Int) = v1) (h4 : ((((v9 - v10) - v11) + 1) : Int) ≤ ((v6 - v8) - v7)) : (((v9 - v10) - v11) : Int) ≤ ((v3 - v4) - v5) := by omega
theorem om_c8fa7d742947 {v0 : Int} (h0 : (v0 : Int) = 0) : (v0 : Int) ≤ 8200 := by omega
theorem om_c92bb69903d6 {v0 v1 : Int} (h0 : (v0 : Int) = (-1)) (h1 : (v1 : Int) = v0) : ((v1 + 1) : Int) = ((0 : Nat) : Int) := by omega
theorem om_c968828d0a40 {v0 v1 : Int} {v2 : Nat} (h0 : (v0 : Int) = (v1 - 1)) (h1 : (((v2 : Nat) : Int) : Int) = v0) : ((((v2 : Nat) : Int) + 1) : Int) = v1 := by omega
theorem om_c98ce90bb990 {v0 : Int} (h0 : (v0 : Int) = 133) : (v0 : Int) = 133 := by omega
theorem om_c99a58c6517c {v0 v1 v2 : Int} (h0 : (v0 : Int) ≤ 9000) (h1 : (v1 : Int) = v2) (h2 : (v2 : Int) = v0) : (v1 : Int) ≤ 9999 := by omega
theorem om_c9a65ddeb89c {v0 v1 v2 v3 : Int} (h0 : (0 : Int) ≤ v0) (h1 : (0 : Int) ≤ v1) (h2 : (v1 : Int) ≤ 7) (h3 : (v0 : Int) < v2) (h4 : (v2 : Int) ≤ 300) (h5 : (v3 : Int) = (8 * v0)) : ((((-2147483648) : Int) ≤ (v3 + v1)) ∧ (((v3 + v1) : Int) ≤ 2147483647)) := by omega
theorem om_c9d69e9747b1 {v0 v1 v2 : Nat} (h0 : (v0 : Nat) = (v1 + v2)) : (v0 : Nat) = (v1 + v2) := by omega
theorem om_c9dc0cc5cf5e {v0 v1 v2 v3 : Int} (h0 : (v0 : Int) = v1) (h1 : (v0 : Int) ≤ v2) (h2 : (v3 : Int) = v2) : (v1 : Int) ≤ v3 := by omega
theorem om_c9e2a8e867d4 {v0 v1 v2 v3 v4 v5 : Int} (h0 : (0 : Int) ≤ v0) (h1 : (v0 : Int) ≤ 10) (h2 : (v0 : Int) ≠ 10) (h3 : (v1 : Int) = (v0 + 1)) (h4 : (v2 : Int) = v1) (h5 : (v3 : Int) = v2) (h6 : (v4 : Int) = v3) (h7 : (v5 : Int) = (v4 - 1)) : (((0 : Int) ≤ v5) ∧ ((v5 : Int) ≤ 10)) := by omega
theorem om_c9f07382b595 {v0 v1 v2 v3 v4 : Int} (h0 : (0 : Int) ≤ v0) (h1 : (v0 : Int) ≠ 0) (h2 : (v1 : Int) = v0) (h3 : (v2 : Int) = v1) (h4 : (v3 : Int) = v2) (h5 : (v4 : Int) = 0) (h6 : (v4 : Int) = v3) : False := by omega
theorem om_ca44e42f4839 {v0 v1 : Int} {v2 v3 : Nat} (h0 : (v0 : Int) ≤ 250000) (h1 : (v1 : Int) = ((v2 : Nat) : Int)) (h2 : (v1 : Int) ≤ v0) (h3 : (v3 : Nat) = (2 * v2)) (h4 : (v0 : Int) < ((v3 : Nat) : Int)) : ((((-1) : Int) ≤ v0) ∧ ((v0 : Int) ≤ 262143)) := by omega
theorem om_ca8123c7c681 {v0 v1 : Int} (h0 : (v0 : Int) ≤ 250000) (h1 : (0 : Int) ≤ v1) (h2 : (v1 : Int) < v0) : ((((-1) : Int) ≤ v0) ∧ ((v0 : Int) ≤ 262143)) := by omega
theorem om_caa4cc42f4d7 {v0 : Int} (h0 : (v0 : Int) = 2) (h1 : (v0 : Int) = 14) : False := by omega
theorem om_cabe02208434 {v0 v1 v2 v3 v5 : Int} {v4 : Nat} (h0 : (v0 : Int) = 0) (h1 : (0 : Int) ≤ v1) (h2 : (v2 : Int) = v3) (h3 : (v3 : Int) ≤ ((v4 : Nat) : Int)) (h4 : ((v5 + 1) : Int) ≤ v3) (h5 : ((v1 + 1) : Int) ≤ v5) : (((0 : Int) ≤ v2) ∧ ((((v2 : Int) ≤ ((v4 : Nat) : Int)) ∧ ((((v0 : Int) = 0) ∧ ((v1 : Int) ≤ v2)))))) := by omega
theorem om_caef228411ba {v0 v1 : Int} (h0 : (v0 : Int) ≤ 8) (h1 : (0 : Int) ≤ v0) (h2 : (v1 : Int) = (v0 + 1)) : (((0 : Int) ≤ v1) ∧ ((v1 : Int) ≤ 9)) := by omega
theorem om_caf5637c158e {v0 v2 v3 v4 v5 v6 v7 : Int} {v1 : Nat} (h0 : (v0 : Int) ≤ 23) (h1 : (v0 : Int) = ((v1 : Nat) : Int)) (h2 : (0 : Int) ≤ v2) (h3 : (v2 : Int) ≤ 1) (h4 : (0 : Int) ≤ v3) (h5 : (v4 : Int) ≤ 8) (h6 : (v3 : Int) < v4) (h7 : (v5 : Int) = (24 * v2)) (h8 : (v6 : Int) = (v5 + v0)) (h9 : (v7 : Int) = (8 * v6)) : ((((-2147483648) : Int) ≤ (v7 + v3)) ∧ (((v7 + v3) : Int) ≤ 2147483647)) := by omega
theorem om_cb05e5b3981c {v0 v1 : Int} {v2 v3 : Nat} (h0 : (v0 : Int) = (v1 + 1)) (h1 : (v1 : Int) = ((((10000 * v2) + v3) : Nat) : Int)) : (0 : Int) ≤ v0 := by omega
theorem om_cb345e606465 {v0 v1 v3 v4 v5 : Int} {v2 : Nat} (h0 : ((v0 - v1) : Int) < ((v2 : Nat) : Int)) (h1 : (v3 : Int) = (v0 - 1)) (h2 : (v4 : Int) = v3) (h3 : (v5 : Int) = v4) : ((v5 - v1) : Int) < ((v2 : Nat) : Int) := by omega
theorem om_cb3e5861dc77 {v0 : Int} (h0 : (0 : Int) ≤ v0) (h1 : (v0 : Int) ≤ 47) : ((((-2147483648) : Int) ≤ (8 * v0)) ∧ (((8 * v0) : Int) ≤ 2147483647)) := by omega
theorem om_cb474779f7d0 {v0 v1 v2 v3 : Int} (h0 : (0 : Int) ≤ v0) (h1 : (v0 : Int) < v1) (h2 : (0 : Int) ≤ v2) (h3 : (v2 : Int) ≤ 7) (h4 : (v1 : Int) ≤ 300) (h5 : (v3 : Int) = (v0 * 8)) : ((((-2147483648) : Int) ≤ (v3 + v2)) ∧ (((v3 + v2) : Int) ≤ 2147483647)) := by omega
theorem om_cb5b29a579d3 {v0 : Int} {v1 : Nat} (h0 : (v0 : Int) ≤ 7) (h1 : ((7 - v0) : Int) ≤ ((v1 : Nat) : Int)) : (((8 + (2 + 11)) + 21) : Nat) ≤ ((300 * v1) + 265) := by omega
theorem om_cb67e99158ac {v0 : Int} (h0 : (0 : Int) ≤ v0) (h1 : (v0 : Int) ≤ 299) : (((0 : Int) ≤ v0) ∧ ((v0 : Int) ≤ 299)) := by omega
theorem om_cb7b7fc8349b {v0 v1 : Int} (h0 : (v0 : Int) ≤ 250000) (h1 : (0 : Int) ≤ v0) (h2 : (v1 : Int) = (v0 + 1)) : (((0 : Int) ≤ v1) ∧ ((v1 : Int) ≤ 262144)) := by omega
theorem om_cba3b1702db7 {v0 v1 v2 : Int} (h0 : (v0 : Int) ≤ 24) (h1 : (v1 : Int) = v0) (h2 : (0 : Int) ≤ v2) (h3 : (v2 : Int) < v1) : ((((-2147483648) : Int) ≤ (v2 + 1)) ∧ (((v2 + 1) : Int) ≤ 2147483647)) := by omega
theorem om_cbb4348e7513 {v0 v1 : Int} (h0 : (0 : Int) ≤ v0) (h1 : (v0 : Int) ≤ 1) (h2 : (v1 : Int) = (12 * v0)) : (((0 : Int) ≤ v1) ∧ ((v1 : Int) ≤ 24)) := by omega
theorem om_cc3b86cc799c {v1 v2 v3 v4 v5 : Int} {v0 v6 v7 : Nat} (h0 : (((v0 : Nat) : Int) : Int) = v1) (h1 : (v2 : Int) = v3) (h2 : (v4 : Int) = (24 * v1)) (h3 : (v5 : Int) = (v4 + v2)) (h4 : (((v6 : Nat) : Int) : Int) = ((24 * ((v0 : Nat) : Int)) + v3)) (h5 : (((v7 : Nat) : Int) : Int) = v5) : (v7 : Nat) < (v6 + 1) := by omega
theorem om_cc589d485d93 {v0 : Int} (h0 : (v0 : Int) = 46) : (1 : Int) ≤ v0 := by omega
theorem om_cc81afcb7358 {v0 v2 : Int} {v1 : Nat} (h0 : (v0 : Int) = ((v1 : Nat) : Int)) (h1 : (v0 : Int) ≤ v2) : (0 : Int) ≤ v2 := by omega
theorem om_cc96ff50f1bd {v0 v1 v2 v3 v4 : Int} (h0 : (v0 : Int) ≤ 9000) (h1 : (0 : Int) ≤ v1) (h2 : (v1 : Int) ≤ 10000) (h3 : (v2 : Int) = (v1 + v0)) (h4 : (v3 : Int) = v4) (h5 : (v4 : Int) = v0) (h6 : (0 : Int) ≤ v3) : (((0 : Int) ≤ v2) ∧ ((v2 : Int) ≤ 20000)) := by omega
theorem om_cca9797ede8c {v0 v1 : Int} (h0 : (v0 : Int) ≤ 3999) (h1 : (v1 : Int) = v0) : (v1 : Int) ≤ 3999 := by omega
theorem om_ccabef0d2974 {v1 v3 : Int} {v0 v2 : Nat} (h0 : ((((v0 : Nat) : Int) + 1) : Int) = v1) (h1 : (v2 : Nat) = v0) (h2 : (v3 : Int) = v1) : (v3 : Int) = (((v2 + 1) : Nat) : Int) := by omega
theorem om_cccd982b48f8 {v0 v1 v3 : Int} {v2 : Nat} (h0 : (v0 : Int) = v1) (h1 : (v1 : Int) ≤ ((v2 : Nat) : Int)) (h2 : (v2 : Nat) = 24) (h3 : (0 : Int) ≤ v3) (h4 : (v3 : Int) < v0) : ((((-1) : Int) ≤ v3) ∧ ((v3 : Int) ≤ 23)) := by omega
theorem om_ccfa9b02440b {v0 v1 v2 v3 : Int} (h0 : (v0 : Int) ≤ v1) (h1 : (v2 : Int) = (v0 + 0)) (h2 : (v3 : Int) = (v1 + 1)) : (v2 : Int) ≤ v3 := by omega
theorem om_cd1275f5679f {v0 v1 : Int} (h0 : (v0 : Int) ≤ 999999) (h1 : (100 : Int) ≤ v0) (h2 : (v1 : Int) = (v0 + 1)) : (((0 : Int) ≤ v1) ∧ ((v1 : Int) ≤ 1000000)) := by omega
theorem om_cd1367a02e57 {v0 : Int} (h0 : (v0 : Int) ≤ 56) (h1 : (0 : Int) ≤ v0) : ((((-2147483648) : Int) ≤ (v0 + (-8))) ∧ (((v0 + (-8)) : Int) ≤ 2147483647)) := by omega
theorem om_cd3e0de132da {v0 v1 v2 v3 v4 : Int} (h0 : (0 : Int) ≤ v0) (h1 : (0 : Int) ≤ v1) (h2 : (v2 : Int) = (8 * v0)) (h3 : (v3 : Int) = (v2 + v1)) (h4 : (v4 : Int) = (24 * v3)) : (0 : Int) ≤ v4 := by omega
theorem om_cd61ea570647 {v0 v1 v2 v3 v4 v5 v6 : Int} (h0 : (v0 : Int) ≤ v1) (h1 : (v2 : Int) = v0) (h2 : (v3 : Int) = v1) (h3 : ((v4 - v2) : Int) ≤ (v5 - v3)) (h4 : (v5 : Int) ≤ 300) (h5 : (0 : Int) ≤ v4) (h6 : (v6 : Int) = v4) : (((0 : Int) ≤ v6) ∧ ((v6 : Int) ≤ 300)) := by omega
theorem om_ce335f784295 {v0 v1 v2 v3 v4 : Int} (h0 : (v0 : Int) ≤ v1) (h1 : (v2 : Int) = (v1 + 1)) (h2 : (v3 : Int) = (v0 + 1)) (h3 : (v4 : Int) = v2) : (v3 : Int) ≤ v4 := by omega
theorem om_ce4b95d991a9 {v0 v4 v5 : Int} {v1 v2 v3 : Nat} (h0 : (v0 : Int) ≤ 47) (h1 : (v0 : Int) = ((v1 : Nat) : Int)) (h2 : (v1 : Nat) = ((24 * v2) + v3)) (h3 : (0 : Int) ≤ v4) (h4 : (v4 : Int) < 24) (h5 : (v5 : Int) = (24 * v0)) : ((((-2147483648) : Int) ≤ (v5 + v4)) ∧ (((v5 + v4) : Int) ≤ 2147483647)) := by omega
theorem om_ce86bdf40212 {v0 : Int} {v1 : Nat} (h0 : (v0 : Int) < ((v1 : Nat) : Int)) : (v0 : Int) < ((v1 : Nat) : Int) := by omega
theorem om_ceb1c66e0444 {v1 : Int} {v0 : Nat} (h0 : (((v0 : Nat) : Int) : Int) = v1) : (((((v0 : Nat) : Int) : Int) ≤ v1) ∧ ((v1 : Int) ≤ (((v0 : Nat) : Int) + 1))) := by omega
theorem om_cebe9a256b98 {v0 v1 v2 v3 v4 v5 : Int} (h0 : (v0 : Int) ≤ v1) (h1 : ((v2 - v0) : Int) ≤ (v3 - v1)) (h2 : (v4 : Int) = v2) (h3 : (v5 : Int) = v3) : (v4 : Int) ≤ v5 := by omega
theorem om_cf08f328c789 {v2 : Int} {v0 v1 : Nat} (h0 : (v0 : Nat) < 2) (h1 : ((v1 + v0) : Nat) = 1) (h2 : (v2 : Int) = ((v1 : Nat) : Int)) : (((0 : Int) ≤ v2) ∧ ((v2 : Int) ≤ 1)) := by omega
theorem om_cf0f2b96f01e {v0 v1 v2 v3 v4 v5 v6 : Int} (h0 : (v0 : Int) ≤ v1) (h1 : (v2 : Int) = (v1 + 1)) (h2 : (v3 : Int) = v2) (h3 : (v4 : Int) = v0) (h4 : ((v5 - v4) : Int) ≤ (v6 - v3)) (h5 : (v6 : Int) ≤ 300) (h6 : (0 : Int) ≤ v5) : ((((-2147483648) : Int) ≤ (v5 + 1)) ∧ (((v5 + 1) : Int) ≤ 2147483647)) := by omega
theorem om_cf147208ce66 {v0 v1 v2 : Int} (h0 : (v0 : Int) ≤ 4000) (h1 : (0 : Int) ≤ v1) (h2 : (v1 : Int) ≤ v2) (h3 : (v2 : Int) < v0) : ((((-2147483648) : Int) ≤ (v2 + 1)) ∧ (((v2 + 1) : Int) ≤ 2147483647)) := by omega
theorem om_cf161be9456d {v0 v2 v3 : Int} {v1 : Nat} (h0 : ((v0 + ((v1 : Nat) : Int)) : Int) = 8) (h1 : (v2 : Int) = v0) (h2 : (v3 : Int) = v2) : ((v3 + ((v1 : Nat) : Int)) : Int) = 8 := by omega
theorem om_cf2aa0c75580 {v0 v1 v2 v3 v4 v5 v6 v7 : Int} (h0 : (v0 : Int) ≤ v1) (h1 : (v2 : Int) = v0) (h2 : (v3 : Int) = v1) (h3 : (v3 : Int) ≤ v4) (h4 : (v5 : Int) = v2) (h5 : (v6 : Int) = v4) (h6 : (v7 : Int) = v5) : (v7 : Int) ≤ v6 := by omega
theorem om_cf2f3cc75fc0 {v1 v3 v5 : Int} {v0 v2 v4 : Nat} (h0 : (((v0 : Nat) : Int) : Int) ≤ ((84 * v1) + 56)) (h1 : (((v2 : Nat) : Int) : Int) ≤ 27) (h2 : (v3 : Int) = (v1 + 1)) (h3 : (v4 : Nat) = (v2 + v0)) (h4 : (v5 : Int) = v3) : (((v4 : Nat) : Int) : Int) ≤ (84 * v5) := by omega
theorem om_cf6921065cda {v0 v1 : Int} (h0 : (v0 : Int) ≤ 40) (h1 : (0 : Int) ≤ v1) (h2 : (v1 : Int) < v0) : (((0 : Int) ≤ v1) ∧ ((v1 : Int) ≤ 39)) := by omega
theorem om_cfc70a0653c5 {v0 : Nat} : ((1 + 1) : Nat) ≤ ((10 * v0) + 14) := by omega
theorem om_d043005af2aa {v0 v1 v2 : Int} (h0 : (v0 : Int) ≤ 6) (h1 : (0 : Int) ≤ v1) (h2 : (v1 : Int) < v0) (h3 : (v2 : Int) = (v1 + 1)) : (((0 : Int) ≤ v2) ∧ ((v2 : Int) ≤ 6)) := by omega
theorem om_d05bf1274801 {v0 v1 v2 v3 : Int} (h0 : (0 : Int) ≤ v0) (h1 : (v0 : Int) ≤ v1) (h2 : ((v1 + 1) : Int) ≤ v2) (h3 : (v2 : Int) ≤ 4000) (h4 : (v3 : Int) = (v0 + 1)) : (((0 : Int) ≤ v3) ∧ ((v3 : Int) ≤ 4000)) := by omega
theorem om_d0ba04e598f0 {v0 : Int} (h0 : ((-1) : Int) ≤ v0) (h1 : (v0 : Int) < 0) : ((((-1) : Int) ≤ v0) ∧ ((v0 : Int) ≤ 19)) := by omega
theorem om_d0c60bcceba5 {v0 : Nat} : ((((10 * v0) + 14) + 1) : Nat) ≤ ((10 * v0) + 15) := by omega
theorem om_d0df63d6633c {v0 : Int} {v1 : Nat} (h0 : (v0 : Int) = 0) (h1 : (v1 : Nat) = 0) : (((v1 : Nat) : Int) : Int) ≤ (84 * v0) := by omega
theorem om_d0f4f3587dbd {v0 v2 v4 v5 v6 v8 : Int} {v1 v3 v7 : Nat} (h0 : (((v0 + (192 * ((v1 : Nat) : Int))) + 192) : Int) ≤ (((v2 + (192 * ((v3 : Nat) : Int))) + (24 * v4)) + v5)) (h1 : ((v6 + (192 * ((v7 : Nat) : Int))) : Int) ≤ (v0 + (192 * ((v1 : Nat) : Int)))) (h2 : (v8 : Int) = (v5 + 1)) : (((v6 + (192 * ((v7 : Nat) : Int))) + 192) : Int) ≤ (((v2 + (192 * ((v3 : Nat) : Int))) + (24 * v4)) + v8) := by omega
theorem om_d125892ab694 {v0 : Int} {v1 v2 : Nat} (h0 : (v0 : Int) = ((((10000 * v1) + (v2 - 1)) : Nat) : Int)) : (v0 : Int) = ((((10000 * v1) + (v2 - 1)) : Nat) : Int) := by omega
theorem om_d14a9f1d8f0a {v0 : Int} {v1 v2 : Nat} (h0 : (v0 : Int) ≤ 19999) (h1 : (v0 : Int) = ((((10000 * v1) + v2) : Nat) : Int)) : (((0 : Int) ≤ v0) ∧ ((v0 : Int) ≤ 19999)) := by omega
theorem om_d1764951d1e3 {v0 v1 v2 : Int} (h0 : (0 : Int) ≤ v0) (h1 : (v0 : Int) ≤ v1) (h2 : (v2 : Int) ≤ 300) (h3 : (v1 : Int) < v2) : ((((-2147483648) : Int) ≤ (v0 + 1)) ∧ (((v0 + 1) : Int) ≤ 2147483647)) := by omega
theorem om_d1b22b2ae31e {v0 v1 : Int} (h0 : (0 : Int) ≤ v0) (h1 : (v1 : Int) ≤ 24) (h2 : (v0 : Int) < v1) : ((((-2147483648) : Int) ≤ (v0 + 1)) ∧ (((v0 + 1) : Int) ≤ 2147483647)) := by omega
theorem om_d1bc3f41d2f0 {v0 v1 : Int} (h0 : (0 : Int) ≤ v0) (h1 : (v1 : Int) ≤ 12) (h2 : (v0 : Int) < v1) : ((((-1) : Int) ≤ v0) ∧ ((v0 : Int) ≤ 11)) := by omega
theorem om_d1ddbc5655c0 {v0 v1 v2 v3 v4 v5 : Int} (h0 : (0 : Int) ≤ v0) (h1 : (v0 : Int) ≤ 23) (h2 : (0 : Int) ≤ v1) (h3 : (v1 : Int) ≤ 1) (h4 : (v2 : Int) = (24 * v1)) (h5 : (v3 : Int) = (v2 + v0)) (h6 : (v4 : Int) = (24 * v3)) (h7 : ((-1) : Int) ≤ v5) (h8 : (v5 : Int) ≤ 23) : ((((-2147483648) : Int) ≤ (v4 + v5)) ∧ (((v4 + v5) : Int) ≤ 2147483647)) := by omega
theorem om_d1ed6895266e {v0 : Nat} : ((0 + v0) : Nat) ≤ v0 := by omega
theorem om_d1f36f80dece {v0 v1 v2 v3 : Int} (h0 : (v0 : Int) ≤ 4000) (h1 : (0 : Int) ≤ v1) (h2 : (v1 : Int) < v0) (h3 : (v2 : Int) ≤ v3) (h4 : (v3 : Int) = v0) (h5 : (v0 : Int) ≤ v2) : ((((-2147483648) : Int) ≤ (v2 - v1)) ∧ (((v2 - v1) : Int) ≤ 2147483647)) := by omega
theorem om_d200bc902a62 {v0 v1 v2 v3 v4 : Int} (h0 : (0 : Int) ≤ v0) (h1 : (v1 : Int) ≤ 23) (h2 : (0 : Int) ≤ v2) (h3 : (v2 : Int) < 100) (h4 : (v0 : Int) ≤ v3) (h5 : (v3 : Int) ≤ v1) (h6 : (v4 : Int) = (v2 * 24)) : ((((-2147483648) : Int) ≤ (v4 + v3)) ∧ (((v4 + v3) : Int) ≤ 2147483647)) := by omega
theorem om_d256ebc631d1 {v1 v4 : Int} {v0 v2 v3 : Nat} (h0 : (((v0 : Nat) : Int) : Int) = v1) (h1 : (((10000 * v2) + v3) : Nat) = v0) (h2 : (v4 : Int) = (v1 + 1)) : (0 : Int) ≤ v4 := by omega
theorem om_d26120b21e66 {v0 : Int} (h0 : (0 : Int) ≤ v0) (h1 : (v0 : Int) ≤ 8) : ((((-2147483648) : Int) ≤ (v0 - 1)) ∧ (((v0 - 1) : Int) ≤ 2147483647)) := by omega
theorem om_d2e1df22ebfc {v0 v2 v3 v4 v5 v7 : Int} {v1 v6 : Nat} (h0 : (((v0 + (192 * ((v1 : Nat) : Int))) + 192) : Int) ≤ ((v2 + (24 * v3)) + v4)) (h1 : (v5 : Int) = (v4 + 1)) (h2 : (v6 : Nat) = v1) (h3 : (v7 : Int) = v0) : (((v7 + (192 * ((v6 : Nat) : Int))) + 192) : Int) ≤ ((v2 + (24 * v3)) + v5) := by omega
theorem om_d2e32cf8df07 {v0 v1 : Int} (h0 : (0 : Int) ≤ v0) (h1 : (v0 : Int) = v1) (h2 : (v1 : Int) = 0) : (v0 : Int) = 0 := by omega
theorem om_d2e622dc9730 {v0 v1 v2 : Int} (h0 : (v0 : Int) = 0) (h1 : (v1 : Int) = v0) (h2 : (v2 : Int) = v1) : (v2 : Int) = 0 := by omega
theorem om_d30a4a4dfd74 {v0 : Int} (h0 : (v0 : Int) = 0) (h1 : (1 : Int) < v0) : False := by omega
theorem om_d3435e1acec6 {v0 : Int} (h0 : (0 : Int) ≤ v0) (h1 : (v0 : Int) ≤ 23) : (((0 : Int) ≤ v0) ∧ ((v0 : Int) ≤ 23)) := by omega
theorem om_d3b5eb1e887e {v0 v1 v2 v3 v4 : Int} (h0 : (v0 : Int) = v1) (h1 : (v2 : Int) = v3) (h2 : ((v4 + 1) : Int) ≤ v1) (h3 : (v3 : Int) ≤ (2 * v4)) : (v2 : Int) ≤ (2 * v0) := by omega
theorem om_d3c314603ed0 {v0 : Nat} : (((8 + (2 + 11)) + 21) : Nat) ≤ ((300 * v0) + 500) := by omega
theorem om_d3f63a7ae91d {v0 : Nat} : (((8 + (3 + 11)) + ((300 * v0) + 460)) : Nat) ≤ ((300 * v0) + 500) := by omega
theorem om_d3fe13f71892 {v0 v1 : Nat} : (((8 + (2 + 11)) + 0) : Nat) ≤ (((100 * v0) + (1000 * v1)) + 320) := by omega
theorem om_d41c95ea1f66 {v0 v1 v2 v4 : Int} {v3 : Nat} (h0 : (0 : Int) ≤ v0) (h1 : (v1 : Int) = v2) (h2 : (v2 : Int) ≤ ((v3 : Nat) : Int)) (h3 : ((v4 + 1) : Int) ≤ v2) (h4 : ((v0 + 1) : Int) ≤ v4) : (((0 : Int) ≤ v1) ∧ ((v1 : Int) ≤ ((v3 : Nat) : Int))) := by omega
theorem om_d42bae854ac7 {v0 : Int} {v1 : Nat} (h0 : (v0 : Int) ≤ 7) (h1 : ((7 - v0) : Int) ≤ ((v1 : Nat) : Int)) : ((0 + 1) : Nat) ≤ ((10 * v1) + 10) := by omega
theorem om_d4d2245d59a7 {v0 : Int} (h0 : (v0 : Int) = 8) (h1 : (v0 : Int) = 15) : False := by omega
theorem om_d4d9a35ab6e6 {v0 : Nat} (h0 : (v0 : Nat) < 0) : False := by omega
theorem om_d4dac3061103 {v0 v1 v3 v6 : Int} {v2 v4 v5 : Nat} (h0 : (v0 : Int) ≤ 12) (h1 : ((300 - v1) : Int) ≤ ((v2 : Nat) : Int)) (h2 : ((10 - v3) : Int) ≤ ((v4 : Nat) : Int)) (h3 : ((12 - v0) : Int) ≤ ((v5 : Nat) : Int)) (h4 : (v1 : Int) ≤ 300) (h5 : (v6 : Int) = v3) (h6 : (v6 : Int) ≤ 10) : (((8 + (1 + 11)) + 0) : Nat) ≤ ((((100 * v2) + (1000 * v4)) + 588) + (60 * v5)) := by omega
theorem om_d4dc5fc28acf {v0 : Int} (h0 : (v0 : Int) ≤ 11) (h1 : (0 : Int) < v0) : ((((-2147483648) : Int) ≤ (v0 - 1)) ∧ (((v0 - 1) : Int) ≤ 2147483647)) := by omega
theorem om_d55ab881ae13 {v0 v1 v2 v3 v4 v5 v6 v7 v8 : Int} (h0 : (v0 : Int) = (v1 + 1)) (h1 : (v2 : Int) = v3) (h2 : (v4 : Int) = v5) (h3 : ((((v6 - v7) - v8) + 1) : Int) ≤ ((v0 - v4) - v2)) : (((v6 - v7) - v8) : Int) ≤ ((v1 - v5) - v3) := by omega
theorem om_d572aa9568fd {v0 : Int} (h0 : (v0 : Int) ≤ 250000) (h1 : (0 : Int) ≤ v0) : ((((-1) : Int) ≤ v0) ∧ ((v0 : Int) ≤ 262143)) := by omega
theorem om_d5ec5fa1ac53 {v1 : Int} {v0 v2 : Nat} (h0 : (((v0 : Nat) : Int) : Int) = v1) (h1 : (v1 : Int) < 400) (h2 : (v0 : Nat) = v2) : ((((-2147483648) : Int) ≤ (v1 + 1)) ∧ (((v1 + 1) : Int) ≤ 2147483647)) := by omega
theorem om_d6037a19fb3f {v0 v2 v4 v5 v6 v7 : Int} {v1 v3 v8 : Nat} (h0 : (((v0 + (192 * ((v1 : Nat) : Int))) + 192) : Int) ≤ (((v2 + (192 * ((v3 : Nat) : Int))) + (24 * v4)) + v5)) (h1 : (v6 : Int) = (v0 + 1)) (h2 : (v7 : Int) = (v5 + 1)) (h3 : (v8 : Nat) = v1) : (((v6 + (192 * ((v8 : Nat) : Int))) + 192) : Int) ≤ (((v2 + (192 * ((v3 : Nat) : Int))) + (24 * v4)) + v7) := by omega
theorem om_d626c53883f1 {v0 : Int} (h0 : (v0 : Int) = 7) : (((1 : Int) ≤ v0) ∧ ((v0 : Int) ≤ 11)) := by omega
theorem om_d62df5b597d2 {v0 : Int} (h0 : (v0 : Int) ≤ 8200) : (v0 : Int) ≤ 8200 := by omega
theorem om_d6447575345f {v0 v1 v2 v3 v4 v5 : Int} (h0 : (v0 : Int) ≤ v1) (h1 : (v2 : Int) = v1) (h2 : (v3 : Int) = v0) (h3 : ((v4 - v3) : Int) ≤ (v5 - v2)) : (v4 : Int) ≤ v5 := by omega
theorem om_d6802ede9a98 {v0 v1 v2 v3 v4 v5 v6 v7 v8 v9 v10 v11 : Int} (h0 : (v0 : Int) = v1) (h1 : (v2 : Int) = v3) (h2 : ((v4 - v2) : Int) ≤ (v5 - v0)) (h3 : (v5 : Int) ≤ v6) (h4 : (v7 : Int) = v4) (h5 : (v8 : Int) = (v6 + 1)) (h6 : (v9 : Int) = (v7 + 1)) (h7 : (v10 : Int) = v8) (h8 : (v11 : Int) = v9) : ((v11 - v3) : Int) ≤ (v10 - v1) := by omega
theorem om_d6b02d381d45 {v0 : Int} (h0 : (v0 : Int) = 1) : (((0 : Int) ≤ v0) ∧ ((v0 : Int) ≤ 2)) := by omega
theorem om_d6b680963097 {v0 v1 v2 v3 : Int} (h0 : (v0 : Int) = (v1 - v2)) (h1 : (12 : Int) ≤ v0) (h2 : (v3 : Int) = (v1 + 1)) : (v2 : Int) ≤ v3 := by omega
theorem om_d739a63bef4d {v0 : Int} {v1 v2 : Nat} (h0 : (0 : Int) ≤ v0) (h1 : (((v1 : Nat) : Int) : Int) = v0) : ((8 * v2) : Nat) ≤ ((8 * v2) + v1) := by omega
theorem om_d79616c3e450 {v0 : Nat} : (((8 + (5 + 11)) + ((300 * v0) + 150)) : Nat) ≤ ((300 * v0) + 180) := by omega
theorem om_d79afd2402b2 {v1 v3 v4 : Int} {v0 v2 : Nat} (h0 : (((v0 : Nat) : Int) : Int) ≤ (((28 * v1) + 24) - ((v2 : Nat) : Int))) (h1 : (v3 : Int) = v1) (h2 : (v4 : Int) = v3) (h3 : (v4 : Int) ≤ 10) : (v0 : Nat) ≤ 394 := by omega
theorem om_d7a28411368c {v1 v2 v3 v4 v5 v7 v8 v9 : Int} {v0 v6 v10 : Nat} (h0 : (((v0 : Nat) : Int) : Int) = v1) (h1 : (v2 : Int) = v3) (h2 : (v4 : Int) = (24 * v1)) (h3 : (v5 : Int) = (v4 + v2)) (h4 : (((v6 : Nat) : Int) : Int) = ((24 * ((v0 : Nat) : Int)) + v3)) (h5 : (v7 : Int) < 20) (h6 : (v8 : Int) = (20 * v5)) (h7 : (v9 : Int) = (v8 + v7)) (h8 : (((v10 : Nat) : Int) : Int) = v9) : (v10 : Nat) < ((20 * v6) + 20) := by omega
theorem om_d7b8e0770948 {v0 : Nat} : (((8 + (1 + 11)) + 108) : Nat) ≤ ((300 * v0) + 500) := by omega
theorem om_d7c9b3cd7334 {v0 v1 : Int} (h0 : (v0 : Int) = v1) : (v0 : Int) ≤ (v1 + 340) := by omega
theorem om_d7d791e66fbf {v0 v1 v2 : Int} (h0 : (v0 : Int) ≤ v1) (h1 : (v1 : Int) = v2) (h2 : (0 : Int) ≤ v0) (h3 : (v0 : Int) ≤ 4000) (h4 : (v2 : Int) ≤ v0) : (((0 : Int) ≤ v2) ∧ ((v2 : Int) ≤ 4000)) := by omega
theorem om_d7d7af4cd1f0 {v0 v2 v4 : Int} {v1 v3 : Nat} (h0 : ((300 - v0) : Int) ≤ ((v1 : Nat) : Int)) (h1 : ((10 - v2) : Int) ≤ ((v3 : Nat) : Int)) (h2 : (v0 : Int) ≤ 300) (h3 : (v4 : Int) = v2) (h4 : (v4 : Int) ≤ 10) : (((8 + (5 + 11)) + 21) : Nat) ≤ (((100 * v1) + (1000 * v3)) + 410) := by omega
theorem om_d80d86ee051d {v0 v1 : Int} (h0 : (v0 : Int) ≤ 12) (h1 : (0 : Int) ≤ v1) (h2 : (v1 : Int) < v0) : (((0 : Int) ≤ v1) ∧ ((v1 : Int) ≤ 24)) := by omega
theorem om_d8375feef0f2 {v0 : Int} {v1 : Nat} (h0 : (v0 : Int) = ((v1 : Nat) : Int)) (h1 : (v0 : Int) = 0) : (v0 : Int) = ((v1 : Nat) : Int) := by omega
theorem om_d8544cdc4a51 {v0 v1 v2 v3 : Int} (h0 : (v0 : Int) ≤ 8) (h1 : (v1 : Int) ≤ ((8 * v2) + v0)) (h2 : (v3 : Int) = (v2 + 1)) : (v1 : Int) ≤ (8 * v3) := by omega
theorem om_d873b6e6eff2 {v0 v1 v2 : Int} (h0 : (0 : Int) ≤ v0) (h1 : ((v0 + v1) : Int) = v2) (h2 : (12 : Int) ≤ v1) : (0 : Int) ≤ v2 := by omega
theorem om_d876c47cf84f {v0 v2 v4 : Int} {v1 v3 : Nat} (h0 : ((v0 + ((v1 : Nat) : Int)) : Int) ≤ 24) (h1 : (0 : Int) ≤ v0) (h2 : (v2 : Int) = (v0 + 1)) (h3 : ((((v3 : Nat) : Int) + 1) : Int) ≤ ((v1 : Nat) : Int)) (h4 : (v4 : Int) = (v2 - 1)) : (((0 : Int) ≤ v4) ∧ ((v4 : Int) ≤ 24)) := by omega
theorem om_d89c386829c4 {v1 v3 v4 v5 v6 v8 : Int} {v0 v2 v7 : Nat} (h0 : (((v0 : Nat) : Int) : Int) ≤ ((84 * v1) + 56)) (h1 : (((v2 : Nat) : Int) : Int) ≤ 27) (h2 : (v3 : Int) = (v1 + 1)) (h3 : (v4 : Int) = v3) (h4 : (v5 : Int) = v4) (h5 : (v6 : Int) = (v5 - 1)) (h6 : (v7 : Nat) = (v2 + v0)) (h7 : (v8 : Int) = v6) : (((v7 : Nat) : Int) : Int) ≤ ((84 * v8) + 84) := by omega
theorem om_d8eca449dd89 {v0 : Int} (h0 : (0 : Int) ≤ v0) (h1 : (v0 : Int) ≤ 299) : ((((-2147483648) : Int) ≤ (v0 * 8)) ∧ (((v0 * 8) : Int) ≤ 2147483647)) := by omega
theorem om_d93806c1ff0c {v0 v3 : Int} {v1 v2 : Nat} (h0 : (v0 : Int) = ((v1 : Nat) : Int)) (h1 : (v2 : Nat) < v1) (h2 : (v3 : Int) ≤ ((v2 : Nat) : Int)) : (v3 : Int) ≤ v0 := by omega
theorem om_d95fc1e632c2 {v0 v1 v2 v3 v4 : Int} (h0 : (v0 : Int) ≤ (2 * v1)) (h1 : (v2 : Int) = v0) (h2 : (v3 : Int) = (v2 + 1)) (h3 : (v4 : Int) = v1) : (v3 : Int) ≤ ((2 * v4) + 1) := by omega
theorem om_d98fff7a4861 {v1 : Int} {v0 : Nat} (h0 : (v0 : Nat) < 2) (h1 : (v1 : Int) = ((v0 : Nat) : Int)) : (((0 : Int) ≤ v1) ∧ ((v1 : Int) ≤ 1)) := by omega
theorem om_d9bfab986e56 {v1 v2 v3 v4 v5 : Int} {v0 : Nat} (h0 : (((v0 : Nat) : Int) : Int) = v1) (h1 : (v2 : Int) = (10000 * ((v0 : Nat) : Int))) (h2 : (0 : Int) ≤ v1) (h3 : (v2 : Int) ≤ 10000) (h4 : (v3 : Int) = (24 * v1)) (h5 : (0 : Int) ≤ v4) (h6 : (v4 : Int) ≤ 24) (h7 : (v5 : Int) = (v3 + v4)) (h8 : (v4 : Int) ≠ 24) : ((((-1) : Int) ≤ v5) ∧ ((v5 : Int) ≤ 47)) := by omega
theorem om_da0f4ca466b7 {v0 v1 v2 v3 v4 v5 v6 v7 : Int} (h0 : ((v0 - v1) : Int) ≤ (v2 - v3)) (h1 : (v4 : Int) = v2) (h2 : (v5 : Int) = v0) (h3 : ((v6 - v5) : Int) ≤ (v7 - v4)) : ((v6 - v1) : Int) ≤ (v7 - v3) := by omega
theorem om_da0ff9a4b1db {v1 : Int} {v0 : Nat} (h0 : (((v0 : Nat) : Int) : Int) ≤ ((84 * v1) + 84)) (h1 : (v1 : Int) ≤ 10) : ((0 + v0) : Nat) ≤ 2000 := by omega
theorem om_da2ce214c664 {v0 : Int} (h0 : (v0 : Int) = 42) : (v0 : Int) ≠ 0 := by omega
theorem om_da4eef675bfb {v0 : Int} (h0 : (v0 : Int) = 2) (h1 : (v0 : Int) ≠ 2) : False := by omega
theorem om_da89aa6607f0 {v0 v1 : Nat} (h0 : (v0 : Nat) = v1) : (v1 : Nat) ≤ v0 := by omega
theorem om_da8f1a918998 {v0 : Int} (h0 : (v0 : Int) ≤ 3) (h1 : (v0 : Int) ≠ 3) (h2 : (2 : Int) < v0) : False := by omega
theorem om_dace01274bcc {v0 : Int} (h0 : (v0 : Int) ≤ 10) (h1 : (v0 : Int) ≠ 10) : (v0 : Int) ≤ 9 := by omega
theorem om_dadc9969542e {v1 : Int} {v0 : Nat} (h0 : (((v0 : Nat) : Int) : Int) = v1) : (v1 : Int) = ((v0 : Nat) : Int) := by omega
theorem om_daf302a31b5d {v1 : Int} {v0 : Nat} (h0 : (((v0 : Nat) : Int) : Int) ≤ ((28 * v1) + 28)) (h1 : (v1 : Int) ≤ 10) (h2 : (v1 : Int) ≠ 10) : (v0 : Nat) ≤ 394 := by omega
theorem om_db162c69b44f {v0 v1 v2 v3 v4 v5 v6 v7 v8 v9 v10 v11 : Int} (h0 : (((v0 + v1) - v2) : Int) ≤ 999000) (h1 : (v3 : Int) = v1) (h2 : (v4 : Int) = v2) (h3 : (v5 : Int) = v0) (h4 : (((v6 + v7) - v8) : Int) ≤ ((v5 + v3) - v4)) (h5 : (v9 : Int) = v8) (h6 : (v10 : Int) = v7) (h7 : (v11 : Int) = v6) : (((v11 + v10) - v9) : Int) ≤ 999000 := by omega
theorem om_db24ecd6b341 {v0 : Int} (h0 : (v0 : Int) = 8) (h1 : (v0 : Int) = 12) : False := by omega
theorem om_db47bfc87502 {v0 v1 v2 v3 v4 v5 v6 : Int} (h0 : (0 : Int) ≤ v0) (h1 : (0 : Int) ≤ v1) (h2 : (v2 : Int) = (8 * v0)) (h3 : (v3 : Int) = (v2 + v1)) (h4 : (v4 : Int) = (24 * v3)) (h5 : (0 : Int) ≤ v5) (h6 : (v6 : Int) = (v4 + v5)) : (0 : Int) ≤ v6 := by omega
theorem om_db923ce939a6 {v0 v1 v2 v3 v4 v5 v6 v7 v8 v9 : Int} (h0 : (((v0 - v1) - v2) : Int) ≤ 1000000000) (h1 : (v3 : Int) = v2) (h2 : (v4 : Int) = v0) (h3 : (v5 : Int) = v6) (h4 : (((v7 - v8) - v9) : Int) ≤ (((v4 - v5) - v3) + 1)) (h5 : (v6 : Int) = (v1 + 1)) : (((v7 - v8) - v9) : Int) ≤ 1000000000 := by omega
theorem om_dbdb2869bf85 {v0 : Int} {v1 : Nat} (h0 : (((v0 + (400 * ((v1 : Nat) : Int))) + 30) : Int) ≤ 19000) : (((v0 + (400 * ((v1 : Nat) : Int))) + 30) : Int) ≤ 19000 := by omega
theorem om_dbeffe03d2f6 {v0 : Int} (h0 : (0 : Int) ≤ v0) (h1 : (v0 : Int) < 100) : ((((-2147483648) : Int) ≤ (v0 * 24)) ∧ (((v0 * 24) : Int) ≤ 2147483647)) := by omega
theorem om_dc10c6d48ea2 {v0 v2 v3 v4 : Int} {v1 : Nat} (h0 : (v0 : Int) = ((v1 : Nat) : Int)) (h1 : (v2 : Int) = v0) (h2 : (v2 : Int) ≤ 24) (h3 : (0 : Int) ≤ v3) (h4 : (v4 : Int) ≤ ((v1 : Nat) : Int)) (h5 : (v3 : Int) ≤ v4) : (((0 : Int) ≤ v3) ∧ ((v3 : Int) ≤ 24)) := by omega
theorem om_dc1804636fbd {v0 v1 : Int} (h0 : (v0 : Int) ≤ (24 * (10 - v1))) (h1 : (0 : Int) ≤ v1) : (v0 : Int) ≤ 10000 := by omega
theorem om_dc1ab77f9798 {v0 v2 v4 v5 : Int} {v1 v3 : Nat} (h0 : (v0 : Int) = ((v1 : Nat) : Int)) (h1 : (v2 : Int) = ((v3 : Nat) : Int)) (h2 : (v4 : Int) = v0) (h3 : (v5 : Int) = v2) : (((v4 : Int) = ((v1 : Nat) : Int)) ∧ ((v5 : Int) = ((v3 : Nat) : Int))) := by omega
theorem om_dc2ce737465e {v0 v1 : Int} (h0 : (v0 : Int) = v1) (h1 : (0 : Int) ≤ v1) (h2 : (v1 : Int) ≤ 2048) : ((((-2147483648) : Int) ≤ (v0 - 1)) ∧ (((v0 - 1) : Int) ≤ 2147483647)) := by omega
theorem om_dc4480632432 {v0 : Int} (h0 : (0 : Int) ≤ v0) (h1 : (v0 : Int) ≠ 0) : (v0 : Int) ≠ 0 := by omega
theorem om_dc783f202695 {v0 v1 v2 : Int} (h0 : (v0 : Int) = (10000 * v1)) (h1 : (v2 : Int) = v0) (h2 : (0 : Int) ≤ v2) : (0 : Int) ≤ v1 := by omega
theorem om_dcb26408844e {v0 : Int} (h0 : (0 : Int) ≤ v0) (h1 : (v0 : Int) ≤ 29) : (((0 : Int) ≤ v0) ∧ ((v0 : Int) ≤ 29)) := by omega
theorem om_dcba32ad97ce {v0 : Int} {v1 v2 v3 : Nat} (h0 : ((12 - v0) : Int) ≤ ((v1 : Nat) : Int)) (h1 : (v0 : Int) ≤ 11) : ((0 + 1) : Nat) ≤ ((((4 * v2) + (40 * v3)) + 14) + (2 * v1)) := by omega
theorem om_dccd5b7d6bc1 {v0 v1 v2 v3 v4 : Int} (h0 : (v0 : Int) ≤ 4000) (h1 : (0 : Int) ≤ v1) (h2 : (v2 : Int) < v0) (h3 : (v3 : Int) = (v2 - v1)) (h4 : (12 : Int) ≤ v3) (h5 : (v4 : Int) = (v2 + 1)) : (((0 : Int) ≤ v4) ∧ ((v4 : Int) ≤ 4000)) := by omega
theorem om_dcf5c8c3b9a7 {v0 v2 v3 v4 v5 v6 : Int} {v1 : Nat} (h0 : (v0 : Int) = ((v1 : Nat) : Int)) (h1 : (v1 : Nat) ≤ 24) (h2 : (0 : Int) ≤ v2) (h3 : (0 : Int) ≤ v3) (h4 : (v3 : Int) ≤ v4) (h5 : (v4 : Int) < v0) (h6 : (v2 : Int) < 100) (h7 : (v5 : Int) = (24 * v2)) (h8 : (v6 : Int) = (v5 + v4)) : ((((-2147483648) : Int) ≤ (v6 - v3)) ∧ (((v6 - v3) : Int) ≤ 2147483647)) := by omega
theorem om_dd0ce49d2fa7 {v0 : Int} (h0 : (v0 : Int) = 2) : (v0 : Int) ≠ 3 := by omega
theorem om_dd107d807251 {v0 : Int} {v1 v2 v3 : Nat} (h0 : (v0 : Int) = ((((10000 * v1) + v2) : Nat) : Int)) (h1 : (v3 : Nat) = 0) : (((((v3 : Nat) : Int) : Int) = ((0 : Nat) : Int)) ∧ ((v0 : Int) = ((((10000 * v1) + v2) : Nat) : Int))) := by omega
theorem om_dd26073c146a {v0 v1 v3 : Int} {v2 : Nat} (h0 : (0 : Int) ≤ v0) (h1 : (v1 : Int) = ((v2 : Nat) : Int)) (h2 : (v0 : Int) < v1) (h3 : (v3 : Int) = (v0 + 1)) : (((0 : Int) ≤ v3) ∧ ((v3 : Int) ≤ ((v2 : Nat) : Int))) := by omega
theorem om_dd313040f34f {v0 : Nat} : ((((8394 + (57 * v0)) + 13) + 44) : Nat) ≤ (8394 + (57 * (v0 + 1))) := by omega
theorem om_dd34aae1cbce {v0 : Int} (h0 : ((-1) : Int) ≤ v0) (h1 : (v0 : Int) = (-1)) : ((((-1) : Int) ≤ v0) ∧ ((v0 : Int) ≤ 19)) := by omega
theorem om_dd5f0417d2d1 {v0 v1 v2 v3 v4 v5 : Int} {v6 : Nat} (h0 : (v0 : Int) = 0) (h1 : (v1 : Int) ≤ (2 * v2)) (h2 : (0 : Int) ≤ v1) (h3 : (v3 : Int) = v4) (h4 : (v5 : Int) ≤ ((v6 : Nat) : Int)) (h5 : ((v3 + 1) : Int) ≤ v5) (h6 : ((v2 + 1) : Int) ≤ v4) : (((0 : Int) ≤ v5) ∧ ((((v5 : Int) ≤ ((v6 : Nat) : Int)) ∧ ((((v0 : Int) = 0) ∧ (((v2 + 1) : Int) ≤ v5)))))) := by omega
theorem om_dd73a4de4548 {v0 v1 : Nat} : (((((216048 + (1054128 - v0)) + (6 * v1)) + 0) + 0) : Nat) ≤ ((216048 + (1054128 - v0)) + (6 * (v1 + 1))) := by omega
theorem om_dd76558e0129 {v0 v1 v2 : Nat} (h0 : (((24 * v0) + v1) : Nat) = ((24 * v0) + v2)) : (((24 * v0) + v2) : Nat) ≤ ((24 * v0) + v1) := by omega
theorem om_dd7accf2b712 {v0 v1 : Nat} : (((((4 * v0) + (40 * v1)) + 13) + 1) : Nat) ≤ (((4 * v0) + (40 * v1)) + 16) := by omega
theorem om_ddbdbfc8487c {v0 v1 v2 : Int} (h0 : (1 : Int) ≤ v0) (h1 : (v0 : Int) ≤ 5) (h2 : (0 : Int) ≤ v1) (h3 : (v1 : Int) ≤ 4000) (h4 : (v2 : Int) = (16 * v1)) : ((((-2147483648) : Int) ≤ (v0 + v2)) ∧ (((v0 + v2) : Int) ≤ 2147483647)) := by omega
theorem om_ddd9fa46ae4d {v0 : Int} {v1 : Nat} (h0 : (v0 : Int) = ((v1 : Nat) : Int)) (h1 : (v0 : Int) ≤ 1) : (v1 : Nat) < 2 := by omega
theorem om_de934181d724 {v0 : Int} (h0 : (v0 : Int) = 59) : (1 : Int) ≤ v0 := by omega
theorem om_debe1bc6a3c5 {v0 v1 v2 v3 v4 v5 : Int} (h0 : (0 : Int) ≤ v0) (h1 : (v0 : Int) < v1) (h2 : (v1 : Int) ≤ 300) (h3 : (0 : Int) ≤ v2) (h4 : (v3 : Int) ≤ 8) (h5 : (v2 : Int) < v3) (h6 : (v4 : Int) = (8 * v0)) (h7 : (v5 : Int) = (v4 + v2)) : ((((-2147483648) : Int) ≤ (24 * v5)) ∧ (((24 * v5) : Int) ≤ 2147483647)) := by omega
theorem om_dee352558e19 {v1 v2 v3 : Int} {v0 : Nat} (h0 : (((v0 : Nat) : Int) : Int) ≤ (84 * v1)) (h1 : (v2 : Int) = v1) (h2 : (v3 : Int) = v2) (h3 : (v3 : Int) ≤ 10) : ((0 + v0) : Nat) ≤ 2000 := by omega
theorem om_deeadfebb293 {v0 : Int} {v1 : Nat} (h0 : (v0 : Int) ≤ 299) (h1 : (v0 : Int) = ((v1 : Nat) : Int)) : ((((-1) : Int) ≤ v0) ∧ ((v0 : Int) ≤ 299)) := by omega
theorem om_def7735986f8 {v0 : Nat} : (((8 + (3 + 11)) + ((300 * v0) + 420)) : Nat) ≤ ((300 * v0) + 500) := by omega
theorem om_df8f06419a93 {v0 : Nat} : (((8 + (4 + 11)) + 40500) : Nat) ≤ ((40 * v0) + 40600) := by omega
theorem om_df904983c185 {v0 v1 : Int} (h0 : (v0 : Int) ≤ 299) (h1 : (0 : Int) ≤ v0) (h2 : (v1 : Int) = (v0 + 1)) : (((0 : Int) ≤ v1) ∧ ((v1 : Int) ≤ 300)) := by omega
theorem om_dfb67ba41485 {v0 v1 v2 v3 : Int} (h0 : (0 : Int) ≤ v0) (h1 : (v1 : Int) = (12 * v0)) (h2 : (0 : Int) ≤ v2) (h3 : (v3 : Int) = (v1 + v2)) : (0 : Int) ≤ v3 := by omega
theorem om_dfb90ddd44a9 {v0 v1 v2 v3 v4 v5 v6 v7 v8 : Int} (h0 : (((v0 - v1) - v2) : Int) ≤ ((v3 - v4) - v5)) (h1 : (v6 : Int) = v2) (h2 : (v7 : Int) = v1) (h3 : (v8 : Int) = v0) : (((v8 - v7) - v6) : Int) ≤ (((v3 - v4) - v5) + 1) := by omega
theorem om_dfbd6d18b5e3 {v0 : Nat} : (((5 * v0) + 3) : Nat) = ((5 * v0) + 3) := by omega
theorem om_dfc5663c516c {v0 v2 v4 v5 v6 v8 : Int} {v1 v3 v7 : Nat} (h0 : ((v0 + (192 * ((v1 : Nat) : Int))) : Int) ≤ 999000) (h1 : (v2 : Int) = ((v3 : Nat) : Int)) (h2 : (v3 : Nat) ≤ 24) (h3 : (v4 : Int) ≤ 8) (h4 : (v5 : Int) < v4) (h5 : (((v6 + (192 * ((v7 : Nat) : Int))) + 192) : Int) ≤ (((v0 + (192 * ((v1 : Nat) : Int))) + (24 * v5)) + v8)) (h6 : (v8 : Int) < v2) : (v6 : Int) ≤ 999999 := by omega
theorem om_dfde37a47f88 {v0 v1 v2 : Int} (h0 : (0 : Int) ≤ v0) (h1 : (v0 : Int) ≤ v1) (h2 : (v1 : Int) < 340) (h3 : (v2 : Int) = (v0 + 1)) : (((0 : Int) ≤ v2) ∧ ((v2 : Int) ≤ 340)) := by omega
theorem om_e04f24ca9d07 {v1 : Int} {v0 : Nat} (h0 : (((v0 : Nat) : Int) : Int) ≤ (84 * v1)) (h1 : (v1 : Int) ≤ 10) : ((0 + v0) : Nat) ≤ 2000 := by omega
theorem om_e0af44ad811f {v1 v2 : Int} {v0 : Nat} (h0 : (((v0 : Nat) : Int) : Int) = v1) (h1 : (v2 : Int) = (10000 * ((v0 : Nat) : Int))) (h2 : (0 : Int) ≤ v1) (h3 : (v2 : Int) ≤ 10000) : ((((-2147483648) : Int) ≤ (24 * v1)) ∧ (((24 * v1) : Int) ≤ 2147483647)) := by omega
theorem om_e0f1e5fe0646 {v0 v1 v2 v3 : Int} (h0 : (v0 : Int) ≤ (2 * v1)) (h1 : (v2 : Int) = v1) (h2 : (v3 : Int) = v0) : (v3 : Int) ≤ (2 * v2) := by omega
theorem om_e12999c70aea {v0 : Int} (h0 : ((-1) : Int) ≤ v0) (h1 : (v0 : Int) = (-1)) (h2 : (v0 : Int) ≠ (-1)) : False := by omega
theorem om_e12af4040232 {v0 v1 v2 v3 v4 : Int} (h0 : (v0 : Int) = (v1 + 1)) (h1 : (v2 : Int) = v0) (h2 : (v3 : Int) ≤ (8054 - (6 * v2))) (h3 : (v4 : Int) = v3) : (v4 : Int) ≤ (8048 - (6 * v1)) := by omega
theorem om_e12b0c58c59e {v0 : Int} (h0 : (v0 : Int) = 131) : (v0 : Int) ≠ 0 := by omega
theorem om_e14a2020e0ec {v0 v1 v2 v3 v4 v5 v6 : Int} (h0 : (v0 : Int) ≤ 4000) (h1 : (0 : Int) ≤ v1) (h2 : (v1 : Int) ≤ v2) (h3 : (v3 : Int) ≤ v4) (h4 : (v4 : Int) = v0) (h5 : (v5 : Int) = (v3 - v2)) (h6 : (12 : Int) < v5) (h7 : (v6 : Int) = (v1 + 1)) : (((0 : Int) ≤ v6) ∧ ((v6 : Int) ≤ 4000)) := by omega
theorem om_e14a7bfdc7bc {v0 v1 : Int} (h0 : (1 : Int) ≤ v0) (h1 : (v1 : Int) = 0) : (v1 : Int) ≤ v0 := by omega
theorem om_e163cc6f2f7b {v1 : Int} {v0 : Nat} (h0 : (((v0 : Nat) : Int) : Int) ≤ ((28 * v1) + 25)) (h1 : (v1 : Int) ≤ 10) : (v0 : Nat) ≤ 394 := by omega
theorem om_e17188790ffe {v0 v1 : Nat} : ((((216048 + (1054128 - v0)) + (6 * v1)) + 0) : Nat) ≤ ((216048 + (1054128 - v0)) + (6 * (v1 + 1))) := by omega
theorem om_e18c581db458 {v0 : Int} (h0 : (v0 : Int) = 0) : (v0 : Int) ≤ 8 := by omega
theorem om_e192ddde0c43 {v0 : Int} (h0 : (0 : Int) ≤ v0) (h1 : (v0 : Int) ≤ 3) : (((0 : Int) ≤ v0) ∧ ((v0 : Int) ≤ 3)) := by omega
theorem om_e1a0806c2c53 {v0 : Nat} : (((8 + (1 + 11)) + 21) : Nat) ≤ ((300 * v0) + 300) := by omega
theorem om_e208e8df1323 {v0 v1 v2 v3 : Int} (h0 : (0 : Int) ≤ v0) (h1 : (v0 : Int) ≤ v1) (h2 : (v2 : Int) ≤ 300) (h3 : (v1 : Int) < v2) (h4 : (v3 : Int) = (v0 + 1)) : (((0 : Int) ≤ v3) ∧ ((v3 : Int) ≤ 300)) := by omega
theorem om_e22e2e6f3685 {v0 v1 v2 v3 v4 v5 : Int} (h0 : (((v0 - v1) - v2) : Int) ≤ 1000000000) (h1 : (v3 : Int) = v2) (h2 : (v4 : Int) = v0) (h3 : (v5 : Int) = v1) : (((v4 - v5) - v3) : Int) ≤ 1000000000 := by omega
theorem om_e23ddeb43246 {v0 v1 v2 : Int} (h0 : (v0 : Int) ≤ 4000) (h1 : (0 : Int) ≤ v1) (h2 : (v1 : Int) < v0) (h3 : (v2 : Int) = (v1 + 1)) : (((0 : Int) ≤ v2) ∧ ((v2 : Int) ≤ 4000)) := by omega
theorem om_e263b395d4ae {v0 v1 v2 : Int} (h0 : (0 : Int) ≤ v0) (h1 : (v0 : Int) < v1) (h2 : (v2 : Int) = (v1 - 1)) : (0 : Int) ≤ v2 := by omega
theorem om_e2b7608b251c {v0 : Int} (h0 : (0 : Int) ≤ v0) (h1 : (v0 : Int) < 40) : (((0 : Int) ≤ v0) ∧ ((v0 : Int) ≤ 39)) := by omega
theorem om_e2c2be8a8631 {v0 : Int} (h0 : (v0 : Int) = (-1)) : ((v0 + 1) : Int) = ((0 : Nat) : Int) := by omega
theorem om_e2c7f9016405 {v0 : Int} {v1 : Nat} (h0 : ((10 - v0) : Int) ≤ ((v1 : Nat) : Int)) : ((10 - v0) : Int) ≤ ((v1 : Nat) : Int) := by omega
theorem om_e2cfe420e9a9 {v0 v1 v2 v3 v4 : Int} (h0 : (v0 : Int) ≤ v1) (h1 : (v2 : Int) = (v3 - v1)) (h2 : (9 : Int) < v2) (h3 : (v4 : Int) = (v0 + 1)) : (v4 : Int) ≤ v3 := by omega
theorem om_e30b9decc5cb {v0 v1 v2 v3 v4 v5 v6 v7 : Int} (h0 : (((v0 + v1) - v2) : Int) ≤ ((v3 + v4) - v5)) (h1 : (v3 : Int) ≤ v0) (h2 : (v6 : Int) = v2) (h3 : (v7 : Int) = v1) : ((v7 - v4) : Int) ≤ (v6 - v5) := by omega
theorem om_e35dbd57c2e4 {v0 v1 v2 : Int} (h0 : (v0 : Int) ≤ 8200) (h1 : (0 : Int) ≤ v1) (h2 : (v1 : Int) < v0) (h3 : (v2 : Int) = (v1 + 1)) : (((0 : Int) ≤ v2) ∧ ((v2 : Int) ≤ 2147483647)) := by omega
theorem om_e39273519f2d {v0 v1 : Nat} (h0 : (v0 : Nat) = v1) : ((10000 * ((v1 : Nat) : Int)) : Int) = (10000 * ((v0 : Nat) : Int)) := by omega
theorem om_e3b1d6ac9ce8 {v0 : Int} (h0 : ((-1) : Int) ≤ v0) (h1 : (v0 : Int) ≠ (-1)) : (0 : Int) ≤ v0 := by omega
theorem om_e3b399699543 {v0 : Int} (h0 : (v0 : Int) = 10) (h1 : (v0 : Int) = 12) : False := by omega
theorem om_e3c391a03e81 {v0 v1 : Int} (h0 : (1 : Int) ≤ v0) (h1 : (v1 : Int) = v0) : (1 : Int) ≤ v1 := by omega
theorem om_e3ccf8139e22 {v0 : Int} {v1 v2 : Nat} (h0 : (0 : Int) ≤ v0) (h1 : (v1 : Nat) ≤ 24) (h2 : (((v2 : Nat) : Int) : Int) = v0) (h3 : (v2 : Nat) < v1) : (((0 : Int) ≤ v0) ∧ ((v0 : Int) ≤ 23)) := by omega
theorem om_e3cf12187e19 {v0 : Int} (h0 : (v0 : Int) = 137) : (v0 : Int) ≠ 0 := by omega
theorem om_e3dae70d7497 {v0 v1 v2 v3 v4 v5 v6 v7 v8 v9 v10 : Int} (h0 : (v0 : Int) = (v1 + 1)) (h1 : (v2 : Int) = v0) (h2 : (v3 : Int) = v4) (h3 : ((v5 - v3) : Int) ≤ (v6 - v2)) (h4 : ((v7 - v5) : Int) ≤ (v8 - v6)) (h5 : (v9 : Int) = v8) (h6 : (v10 : Int) = v7) : ((v10 - v4) : Int) ≤ (v9 - v1) := by omega
theorem om_e3dfe80441bf {v0 v1 v2 v3 : Int} (h0 : (v0 : Int) ≤ 8200) (h1 : (v1 : Int) < v0) (h2 : (v2 : Int) = (v1 + 1)) (h3 : (v3 : Int) = v2) : (v3 : Int) ≤ 8200 := by omega
theorem om_e40ba0376ced {v0 v1 v2 v3 v4 v5 v6 v7 v8 v9 v10 v11 : Int} (h0 : (v0 : Int) ≤ 3000) (h1 : (v1 : Int) = 0) (h2 : (v2 : Int) = v3) (h3 : (v4 : Int) = v5) (h4 : (((v6 - v7) - v8) : Int) ≤ ((v4 - v1) - v2)) (h5 : (v9 : Int) = v8) (h6 : (v10 : Int) = v6) (h7 : (v11 : Int) = v7) : (((v10 - v11) - v9) : Int) ≤ (((v5 - v0) - v3) + 3000) := by omega
theorem om_e413d522cf5b {v0 v1 v2 : Int} (h0 : (((v0 - v1) - v2) : Int) ≤ 1000000000) : (((v0 - v1) - v2) : Int) ≤ 1000000001 := by omega
theorem om_e418f5795471 {v0 v1 v2 v3 v4 : Int} (h0 : (0 : Int) ≤ v0) (h1 : (0 : Int) ≤ v1) (h2 : (v2 : Int) = v1) (h3 : (v3 : Int) = (8 * v0)) (h4 : (v4 : Int) = (v3 + v2)) : (0 : Int) ≤ v4 := by omega
theorem om_e41a77a9d1aa {v1 v2 : Int} {v0 v3 : Nat} (h0 : (((v0 : Nat) : Int) : Int) ≤ ((28 * v1) + 26)) (h1 : (v2 : Int) = v1) (h2 : (v3 : Nat) = (v0 + 1)) : (((v3 : Nat) : Int) : Int) ≤ ((28 * v2) + 28) := by omega
theorem om_e42a2877bcbe {v0 v2 v4 v5 v6 v8 : Int} {v1 v3 v7 : Nat} (h0 : ((v0 + (192 * ((v1 : Nat) : Int))) : Int) ≤ 999000) (h1 : (v2 : Int) = ((v3 : Nat) : Int)) (h2 : (v3 : Nat) ≤ 24) (h3 : (v4 : Int) ≤ 8) (h4 : (v5 : Int) < v4) (h5 : (((v6 + (192 * ((v7 : Nat) : Int))) + 192) : Int) ≤ (((v0 + (192 * ((v1 : Nat) : Int))) + (24 * v5)) + v8)) (h6 : (v8 : Int) < v2) : ((v6 + (192 * ((v7 : Nat) : Int))) : Int) ≤ 999000 := by omega
theorem om_e4dc208c913d {v0 : Int} {v1 : Nat} (h0 : (v0 : Int) = ((v1 : Nat) : Int)) (h1 : (v1 : Nat) ≤ 4000) (h2 : (4000 : Int) ≤ v0) : (v0 : Int) = ((v1 : Nat) : Int) := by omega
theorem om_e4f628196420 {v0 v1 : Int} (h0 : (v0 : Int) = v1) (h1 : (0 : Int) ≤ v1) (h2 : (v1 : Int) ≤ 24) : (((0 : Int) ≤ v0) ∧ ((v0 : Int) ≤ 24)) := by omega
theorem om_e51872d74568 {v0 v2 : Int} {v1 v3 : Nat} (h0 : (v0 : Int) = ((v1 : Nat) : Int)) (h1 : (v2 : Int) < v0) (h2 : (((v3 : Nat) : Int) : Int) = v2) : (v3 : Nat) < v1 := by omega
theorem om_e51d599b9568 {v0 : Int} (h0 : (v0 : Int) = 0) (h1 : (v0 : Int) = 2) : False := by omega
theorem om_e53fff2320c6 {v0 v1 : Int} (h0 : (0 : Int) ≤ v0) (h1 : (v0 : Int) < 28) (h2 : (v1 : Int) = (v0 + 1)) : (((0 : Int) ≤ v1) ∧ ((v1 : Int) ≤ 28)) := by omega
theorem om_e545d8213972 {v0 : Int} (h0 : (0 : Int) ≤ v0) (h1 : (v0 : Int) < 28) : ((((-2147483648) : Int) ≤ (128 + v0)) ∧ (((128 + v0) : Int) ≤ 2147483647)) := by omega
theorem om_e561bb5b3d47 {v0 v1 : Int} (h0 : (1 : Int) ≤ v0) (h1 : (v0 : Int) ≤ 40) (h2 : (v1 : Int) = (v0 - 1)) : (((0 : Int) ≤ v1) ∧ ((v1 : Int) ≤ 39)) := by omega
theorem om_e5692c1ed2d7 {v0 : Int} {v1 v2 : Nat} (h0 : (v0 : Int) ≤ 47) (h1 : (v0 : Int) = ((v1 : Nat) : Int)) (h2 : ((24 * v2) : Nat) ≤ v1) : (((0 : Int) ≤ v0) ∧ ((v0 : Int) ≤ 47)) := by omega
theorem om_e577f9a5b80c {v0 : Int} (h0 : (v0 : Int) = 9) : (v0 : Int) ≤ 999999999 := by omega
theorem om_e587e6add610 {v0 v1 v2 v3 : Int} (h0 : (v0 : Int) ≤ 12) (h1 : (0 : Int) ≤ v1) (h2 : (0 : Int) ≤ v2) (h3 : (v2 : Int) ≤ 1) (h4 : (v1 : Int) < v0) (h5 : (v3 : Int) = (12 * v2)) : ((((-2147483648) : Int) ≤ (v3 + v1)) ∧ (((v3 + v1) : Int) ≤ 2147483647)) := by omega
theorem om_e591ec508e02 {v0 v2 : Int} {v1 : Nat} (h0 : ((28 - v0) : Int) < ((v1 : Nat) : Int)) (h1 : (v2 : Int) = (v0 + 1)) : ((28 - v2) : Int) < ((v1 : Nat) : Int) := by omega
theorem om_e5920f11f013 {v0 v1 : Int} (h0 : (v0 : Int) = 0) (h1 : (0 : Int) ≤ v1) (h2 : (v1 : Int) < v0) : False := by omega
theorem om_e5d95af54b9a {v0 v1 : Int} (h0 : (v0 : Int) = 8) (h1 : (v1 : Int) = (v0 + 1)) : ((((-2147483648) : Int) ≤ (v1 - 1)) ∧ (((v1 - 1) : Int) ≤ 2147483647)) := by omega
theorem om_e600b20a033e {v0 v1 v2 : Int} (h0 : (0 : Int) ≤ v0) (h1 : ((v0 + v1) : Int) ≤ 40) (h2 : (0 : Int) ≤ v2) (h3 : (v2 : Int) < v1) : ((((-2147483648) : Int) ≤ (v0 + v2)) ∧ (((v0 + v2) : Int) ≤ 2147483647)) := by omega
theorem om_e66fa98a5d27 {v0 : Int} (h0 : (0 : Int) ≤ v0) (h1 : (v0 : Int) ≤ 24) : ((((-2147483648) : Int) ≤ (v0 + 1)) ∧ (((v0 + 1) : Int) ≤ 2147483647)) := by omega
theorem om_e678679b3f73 {v0 v1 : Int} (h0 : (0 : Int) ≤ v0) (h1 : (v0 : Int) < 2048) (h2 : (v1 : Int) = (v0 + 1)) : (((0 : Int) ≤ v1) ∧ ((v1 : Int) ≤ 2048)) := by omega
theorem om_e69b212fc415 {v0 : Int} {v1 : Nat} (h0 : (v0 : Int) ≤ 8) (h1 : ((8 - v0) : Int) ≤ ((v1 : Nat) : Int)) : (((8 + (2 + 11)) + 0) : Nat) ≤ ((300 * v1) + 240) := by omega
theorem om_e6bad570a1f1 {v0 : Int} (h0 : (v0 : Int) ≤ 1) (h1 : (v0 : Int) = 1) : (((1 : Int) ≤ v0) ∧ ((v0 : Int) ≤ 1)) := by omega
theorem om_e6f8f66f07bb {v0 : Int} (h0 : (v0 : Int) = 142) : (v0 : Int) = 142 := by omega
theorem om_e73cdb5ccb19 {v1 v3 v4 : Int} {v0 v2 v5 : Nat} (h0 : (((v0 : Nat) : Int) : Int) ≤ (((28 * v1) + 24) - ((v2 : Nat) : Int))) (h1 : (v3 : Int) = v1) (h2 : (v4 : Int) = v3) (h3 : (v5 : Nat) = (v0 + 1)) : (((v5 : Nat) : Int) : Int) ≤ ((28 * v4) + 26) := by omega
theorem om_e74f64d2f8f5 {v0 v1 v2 : Int} (h0 : (v0 : Int) ≤ v1) (h1 : (v2 : Int) = (v0 + (-1))) : (v2 : Int) ≤ v1 := by omega
theorem om_e77d46198aca {v0 : Int} (h0 : (1 : Int) ≤ v0) (h1 : (v0 : Int) ≤ 40) : ((((-2147483648) : Int) ≤ (v0 - 1)) ∧ (((v0 - 1) : Int) ≤ 2147483647)) := by omega
theorem om_e78a06e61153 {v0 v2 : Int} {v1 : Nat} (h0 : (v0 : Int) = ((((12 * v1) : Nat) : Int) + v2)) (h1 : (0 : Int) ≤ v2) : (0 : Int) ≤ v0 := by omega
theorem om_e7c3ec6df7cc {v0 : Int} (h0 : (v0 : Int) = 1) : (((1 : Int) ≤ v0) ∧ ((v0 : Int) ≤ 11)) := by omega
theorem om_e80942391c56 {v0 v2 v3 v4 : Int} {v1 : Nat} (h0 : (v0 : Int) = ((v1 : Nat) : Int)) (h1 : (v1 : Nat) ≤ 24) (h2 : (v2 : Int) = v0) (h3 : (0 : Int) ≤ v3) (h4 : (v3 : Int) < v2) (h5 : (v4 : Int) = (v3 + 1)) : (((0 : Int) ≤ v4) ∧ ((v4 : Int) ≤ 24)) := by omega
theorem om_e84d04d14ad8 {v0 : Int} (h0 : (v0 : Int) = 61) : (v0 : Int) ≠ 0 := by omega
theorem om_e8542d0bbd57 {v1 v2 : Int} {v0 v3 : Nat} (h0 : (((v0 : Nat) : Int) : Int) = (1 - v1)) (h1 : (v2 : Int) = (1 - v1)) (h2 : (((v3 : Nat) : Int) : Int) = v2) : (v3 : Nat) < (v0 + 1) := by omega
theorem om_e85f0a785578 {v0 v1 v2 v3 v4 v5 v6 : Int} (h0 : (v0 : Int) = (v1 + 1)) (h1 : (v2 : Int) = v3) (h2 : (v4 : Int) = v0) (h3 : (v5 : Int) = v6) : (((v4 + v5) - v2) : Int) ≤ (((v1 + v6) - v3) + 1) := by omega
theorem om_e8735de14d36 {v0 v1 : Int} (h0 : (v0 : Int) = v1) (h1 : (0 : Int) ≤ v1) (h2 : (v1 : Int) ≤ 2048) : ((((-2147483648) : Int) ≤ (v0 + 1)) ∧ (((v0 + 1) : Int) ≤ 2147483647)) := by omega
theorem om_e89c2ae064a9 {v0 : Int} (h0 : (0 : Int) ≤ v0) (h1 : (v0 : Int) < 300) : ((((-2147483648) : Int) ≤ (v0 + 1)) ∧ (((v0 + 1) : Int) ≤ 2147483647)) := by omega
theorem om_e8dcd4d58a75 {v0 v1 : Int} (h0 : (v0 : Int) = v1) (h1 : (v1 : Int) = 4) : (v0 : Int) = 4 := by omega
theorem om_e906e46d6ed1 {v0 v1 : Int} (h0 : (v0 : Int) ≤ 8) (h1 : (v1 : Int) = (v0 - 1)) : (v1 : Int) ≤ 999999999 := by omega
theorem om_e93294f872dc {v0 : Int} (h0 : (v0 : Int) ≤ 2048) (h1 : (0 : Int) < v0) : ((((-2147483648) : Int) ≤ (v0 - 1)) ∧ (((v0 - 1) : Int) ≤ 2147483647)) := by omega
theorem om_e937935e9c51 {v0 : Int} (h0 : (0 : Int) ≤ v0) (h1 : (v0 : Int) ≤ 383) : (((0 : Int) ≤ v0) ∧ ((v0 : Int) ≤ 383)) := by omega
theorem om_e95483e777de {v0 v1 v2 v3 v4 v5 v6 v7 v8 v9 v10 v11 : Int} (h0 : (((v0 - v1) - v2) : Int) ≤ 1000000000) (h1 : (v3 : Int) = v2) (h2 : (v4 : Int) = v0) (h3 : (v5 : Int) = v1) (h4 : (((v6 - v7) - v8) : Int) ≤ ((v4 - v5) - v3)) (h5 : (v9 : Int) = v8) (h6 : (v10 : Int) = v6) (h7 : (v11 : Int) = v7) : (((v10 - v11) - v9) : Int) ≤ 1000000000 := by omega
theorem om_e95769fabc92 {v0 v1 v2 v3 v4 v5 v6 v7 : Int} (h0 : (0 : Int) ≤ v0) (h1 : (v0 : Int) ≤ 23) (h2 : (0 : Int) ≤ v1) (h3 : (v1 : Int) ≤ 1) (h4 : (0 : Int) ≤ v2) (h5 : (v3 : Int) ≤ 8) (h6 : (v2 : Int) < v3) (h7 : (v4 : Int) = (24 * v1)) (h8 : (v5 : Int) = (v4 + v0)) (h9 : (v6 : Int) = (8 * v5)) (h10 : (v7 : Int) = (v6 + v2)) : (((0 : Int) ≤ v7) ∧ ((v7 : Int) ≤ 383)) := by omega
theorem om_e95e266a262a {v0 v1 v2 v3 v4 v5 : Int} (h0 : ((v0 + 1) : Int) ≤ v1) (h1 : ((v2 - v0) : Int) ≤ (v3 - v1)) (h2 : (v4 : Int) = v2) (h3 : (v5 : Int) = v3) : (v4 : Int) ≤ v5 := by omega
theorem om_e9cccdb63183 {v0 v1 v2 v3 v4 v5 v6 : Int} (h0 : (v0 : Int) ≤ v1) (h1 : (v2 : Int) = (v1 + 1)) (h2 : (v3 : Int) = v2) (h3 : (v4 : Int) = v0) (h4 : ((v5 - v4) : Int) ≤ (v6 - v3)) : (v5 : Int) ≤ v6 := by omega
theorem om_e9ce31f03c7e {v0 v1 v2 v3 : Int} (h0 : (0 : Int) ≤ v0) (h1 : (0 : Int) ≤ v1) (h2 : (v2 : Int) = (12 * v0)) (h3 : (v3 : Int) = (v2 + v1)) : (0 : Int) ≤ v3 := by omega
theorem om_e9f14a5a3424 {v0 v1 v2 : Int} (h0 : (0 : Int) ≤ v0) (h1 : (v1 : Int) ≤ 300) (h2 : (v0 : Int) < v1) (h3 : (v2 : Int) = (v1 - 1)) : (((0 : Int) ≤ v2) ∧ ((v2 : Int) ≤ 300)) := by omega
theorem om_e9f4cf8e7317 {v0 v1 v2 v3 v4 v5 v6 : Int} (h0 : (0 : Int) ≤ v0) (h1 : (v1 : Int) = (v0 + 1)) (h2 : (v2 : Int) = v1) (h3 : (v2 : Int) ≤ v3) (h4 : (v3 : Int) ≤ v4) (h5 : (v5 : Int) = v4) (h6 : (v6 : Int) = v0) : (((0 : Int) ≤ v6) ∧ ((v6 : Int) < v5)) := by omega
theorem om_ea03894389e7 {v0 v1 v2 v3 v4 v5 v6 v7 v8 v9 : Int} (h0 : (v0 : Int) ≤ v1) (h1 : (v2 : Int) ≤ v0) (h2 : (v3 : Int) = (v1 + 1)) (h3 : (v4 : Int) = v3) (h4 : (v5 : Int) = v2) (h5 : ((v6 - v7) : Int) ≤ (v8 - v4)) (h6 : ((v9 - v5) : Int) ≤ (v6 - v7)) (h7 : (v8 : Int) ≤ 300) (h8 : (0 : Int) ≤ v9) : ((((-2147483648) : Int) ≤ (v9 + 1)) ∧ (((v9 + 1) : Int) ≤ 2147483647)) := by omega
theorem om_ea19430a4cf3 {v0 v1 v2 : Int} : (((v0 - v1) - v2) : Int) ≤ ((v0 - v1) - v2) := by omega
theorem om_ea4c4755e165 {v0 v2 v3 v4 : Int} {v1 : Nat} (h0 : (v0 : Int) ≤ 23) (h1 : (v0 : Int) = ((v1 : Nat) : Int)) (h2 : (0 : Int) ≤ v2) (h3 : (v2 : Int) ≤ 1) (h4 : (v3 : Int) = (24 * v2)) (h5 : (v4 : Int) = (v3 + v0)) : ((((-2147483648) : Int) ≤ (8 * v4)) ∧ (((8 * v4) : Int) ≤ 2147483647)) := by omega
theorem om_ea4f048937c3 {v0 v1 v2 v3 : Int} {v4 : Nat} (h0 : (v0 : Int) ≤ (2 * v1)) (h1 : (0 : Int) ≤ v2) (h2 : ((v2 - v0) : Int) ≤ (2 * (v3 - v1))) : ((((v4 : Nat) : Int) - v3) : Int) < (((v4 : Nat) : Int) + 1) := by omega
theorem om_ea6674265a34 {v2 : Int} {v0 v1 : Nat} (h0 : (v0 : Nat) ≤ 24) (h1 : (v1 : Nat) < v0) (h2 : (0 : Int) ≤ v2) (h3 : (v2 : Int) ≤ ((v1 : Nat) : Int)) : (((0 : Int) ≤ v2) ∧ ((v2 : Int) ≤ 24)) := by omega
theorem om_ea9524dc3dd1 {v0 : Int} (h0 : (v0 : Int) = 13) (h1 : (v0 : Int) ≠ 13) : False := by omega
theorem om_eaaaa04a7877 {v0 v1 v2 v3 : Int} (h0 : (1 : Int) ≤ v0) (h1 : (v0 : Int) ≤ 5) (h2 : (0 : Int) ≤ v1) (h3 : (v1 : Int) ≤ 4000) (h4 : (v2 : Int) = (16 * v1)) (h5 : (v3 : Int) = (v0 + v2)) : (((0 : Int) ≤ v3) ∧ ((v3 : Int) ≤ 70000)) := by omega
theorem om_eab13f2fe702 {v0 : Int} (h0 : (1 : Int) ≤ v0) (h1 : (v0 : Int) < 40) : ((((-2147483648) : Int) ≤ (v0 + 1)) ∧ (((v0 + 1) : Int) ≤ 2147483647)) := by omega
theorem om_eafa9039069c {v0 : Int} (h0 : (0 : Int) ≤ v0) : (0 : Int) ≤ v0 := by omega
theorem om_eb2cbbd63ad9 {v0 : Int} (h0 : (v0 : Int) = 128) : (v0 : Int) ≠ 0 := by omega
theorem om_eb7af9d60398 {v0 : Int} (h0 : (0 : Int) ≤ v0) (h1 : (v0 : Int) ≤ 1) : (((0 : Int) ≤ v0) ∧ ((v0 : Int) ≤ 1)) := by omega
theorem om_eb85f69ac51d {v0 v1 v2 v3 v4 v5 v6 v7 v8 v9 : Int} (h0 : (v0 : Int) = v1) (h1 : (v2 : Int) = v3) (h2 : ((v4 - v0) : Int) ≤ (v5 - v2)) (h3 : ((v6 - v4) : Int) ≤ (v7 - v5)) (h4 : (v8 : Int) = v7) (h5 : (v9 : Int) = v6) : ((v9 - v1) : Int) ≤ (v8 - v3) := by omega
theorem om_eb8f469c24a3 {v0 v1 v3 v6 : Int} {v2 v4 v5 : Nat} (h0 : (v0 : Int) ≤ 12) (h1 : ((300 - v1) : Int) ≤ ((v2 : Nat) : Int)) (h2 : ((10 - v3) : Int) ≤ ((v4 : Nat) : Int)) (h3 : ((12 - v0) : Int) ≤ ((v5 : Nat) : Int)) (h4 : (v1 : Int) ≤ 300) (h5 : (v6 : Int) = v3) (h6 : (v6 : Int) ≤ 10) : (((8 + (5 + 11)) + 21) : Nat) ≤ ((((100 * v2) + (1000 * v4)) + 588) + (60 * v5)) := by omega
theorem om_ebad2ea2b73e {v0 v1 v2 v3 : Int} (h0 : (0 : Int) ≤ v0) (h1 : (v0 : Int) ≤ v1) (h2 : (v2 : Int) ≤ 12) (h3 : (v1 : Int) < v2) (h4 : (v3 : Int) = (v0 + 1)) : (((0 : Int) ≤ v3) ∧ ((v3 : Int) ≤ 12)) := by omega
theorem om_ebd92ed44179 {v0 v1 v3 : Int} {v2 : Nat} (h0 : (0 : Int) ≤ v0) (h1 : (v1 : Int) ≤ ((v2 : Nat) : Int)) (h2 : (v2 : Nat) = 24) (h3 : (v0 : Int) < v1) (h4 : (v3 : Int) = (v0 + 1)) : (((0 : Int) ≤ v3) ∧ ((v3 : Int) ≤ 24)) := by omega
theorem om_ec03263ced6a {v1 : Int} {v0 v2 : Nat} (h0 : ((((v0 : Nat) : Int) + 1) : Int) = v1) (h1 : (v1 : Int) = (((v2 + 1) : Nat) : Int)) : (v2 : Nat) = v0 := by omega
theorem om_ec2623e552ae {v0 v1 : Int} (h0 : (v0 : Int) = v1) (h1 : (0 : Int) ≤ v1) : (0 : Int) ≤ v0 := by omega
theorem om_ec3a52bb0c7c {v0 v1 v2 v3 v4 v5 v6 v7 v8 : Int} (h0 : (((v0 + v1) - v2) : Int) ≤ 999000) (h1 : (((v3 + v4) - v5) : Int) ≤ ((v0 + v1) - v2)) (h2 : (v6 : Int) = v5) (h3 : (v7 : Int) = v4) (h4 : (v8 : Int) = v3) : (((v8 + v7) - v6) : Int) ≤ 999000 := by omega
theorem om_ec672cbce6d2 {v0 v1 : Nat} : (((((4 * v0) + (40 * v1)) + 8) + 1) : Nat) ≤ (((4 * v0) + (40 * v1)) + 10) := by omega
theorem om_ec68978f5267 {v0 v2 v3 : Int} {v1 : Nat} (h0 : ((300 - v0) : Int) ≤ ((v1 : Nat) : Int)) (h1 : (v2 : Int) = v0) (h2 : (v2 : Int) ≤ v3) : ((300 - v3) : Int) ≤ ((v1 : Nat) : Int) := by omega
theorem om_ec74b5de4d5c {v0 v1 v2 : Int} (h0 : (v0 : Int) = 4) (h1 : (v1 : Int) = (v0 + (16 * v2))) (h2 : (0 : Int) ≤ v2) : (1 : Int) ≤ v1 := by omega
theorem om_ec7988a29761 {v0 v1 v2 v3 v4 v5 v6 v7 : Int} (h0 : (0 : Int) ≤ v0) (h1 : (v0 : Int) < v1) (h2 : (v1 : Int) ≤ 300) (h3 : (0 : Int) ≤ v2) (h4 : (v3 : Int) ≤ 8) (h5 : (v2 : Int) < v3) (h6 : (v4 : Int) = (8 * v0)) (h7 : (v5 : Int) = (v4 + v2)) (h8 : (v6 : Int) = (24 * v5)) (h9 : (0 : Int) ≤ v7) (h10 : (v7 : Int) ≤ 24) : ((((-2147483648) : Int) ≤ (v6 + v7)) ∧ (((v6 + v7) : Int) ≤ 2147483647)) := by omega
theorem om_ec9c604ded94 {v0 v1 v2 v3 v4 : Int} (h0 : (v0 : Int) ≤ (v1 + v2)) (h1 : (v3 : Int) = (v0 + 1)) (h2 : (v4 : Int) = (v2 + 1)) : (v3 : Int) ≤ (v1 + v4) := by omega
theorem om_eca9e79ec4c2 {v0 v4 v5 v6 : Int} {v1 v2 v3 : Nat} (h0 : (v0 : Int) = ((v1 : Nat) : Int)) (h1 : (v1 : Nat) = ((24 * v2) + v3)) (h2 : (0 : Int) ≤ v4) (h3 : (v5 : Int) = (24 * v0)) (h4 : (v6 : Int) = (v5 + v4)) : (0 : Int) ≤ v6 := by omega
theorem om_ecdab5b674bb {v0 : Nat} (h0 : (v0 : Nat) < 12) : (((9762 + (5 * v0)) + 5) : Nat) ≤ 9822 := by omega
theorem om_ecebcb700658 {v0 v1 v2 v3 : Int} (h0 : (v0 : Int) ≤ v1) (h1 : (v2 : Int) ≤ v0) (h2 : (v1 : Int) = v3) (h3 : (v3 : Int) ≤ 4000) (h4 : (4000 : Int) ≤ v2) : (((0 : Int) ≤ v3) ∧ ((v3 : Int) ≤ 4000)) := by omega
theorem om_ed1774053dbc {v0 v1 v2 : Int} (h0 : (v0 : Int) ≤ 8) (h1 : (0 : Int) ≤ v0) (h2 : (v1 : Int) = (v0 + 1)) (h3 : (v2 : Int) = (v1 - 1)) : (((0 : Int) ≤ v2) ∧ ((v2 : Int) ≤ 9)) := by omega
theorem om_ed2457266232 {v0 v1 v2 v3 v4 v5 v6 v7 : Int} (h0 : (v0 : Int) ≤ v1) (h1 : (v2 : Int) = v0) (h2 : (v3 : Int) = v1) (h3 : (v4 : Int) = v5) (h4 : (v6 : Int) = v7) (h5 : ((v7 - v2) : Int) ≤ (v5 - v3)) : (v6 : Int) ≤ v4 := by omega
theorem om_ed38d5d51a12 {v0 v1 : Int} (h0 : (v0 : Int) ≤ 250000) (h1 : ((-1) : Int) ≤ v1) (h2 : (v1 : Int) ≠ (-1)) (h3 : (v1 : Int) < v0) : (((0 : Int) ≤ v1) ∧ ((v1 : Int) ≤ 262143)) := by omega
theorem om_ed3f18bbabcf {v0 : Int} (h0 : (v0 : Int) = 5) (h1 : (v0 : Int) = 12) : False := by omega
theorem om_ed409a757601 {v0 v1 : Nat} (h0 : (v0 : Nat) < 2) (h1 : (v1 : Nat) < ((24 * v0) + 24)) : (v1 : Nat) < 48 := by omega
theorem om_ed40a8603357 {v0 : Int} (h0 : (v0 : Int) = 41) : (1 : Int) ≤ v0 := by omega
theorem om_ed5b40001501 {v0 v1 : Int} (h0 : (0 : Int) ≤ v0) (h1 : (v0 : Int) ≤ 24) (h2 : (v0 : Int) ≠ 0) (h3 : (v1 : Int) = (v0 + (-1))) : (((0 : Int) ≤ v1) ∧ ((v1 : Int) ≤ 24)) := by omega
theorem om_eda58bff964e {v0 : Int} (h0 : (v0 : Int) = 5) (h1 : (v0 : Int) = 13) : False := by omega
theorem om_edaef2badf50 {v1 v2 : Int} {v0 : Nat} (h0 : (((v0 : Nat) : Int) : Int) ≤ ((84 * v1) + (28 * v2))) (h1 : (v1 : Int) ≤ 10) (h2 : (v2 : Int) ≤ 11) : ((0 + v0) : Nat) ≤ 2000 := by omega
theorem om_edc6c922546b {v0 v1 v2 v3 v4 v5 v6 v7 v8 : Int} (h0 : (((v0 - v1) - v2) : Int) ≤ 1000000000) (h1 : (((v3 - v4) - v5) : Int) ≤ ((v0 - v1) - v2)) (h2 : (v6 : Int) = v5) (h3 : (v7 : Int) = v3) (h4 : (v8 : Int) = v4) : (((v7 - v8) - v6) : Int) ≤ 1000000000 := by omega
theorem om_edfc951a51f8 {v0 v1 v2 v3 v4 : Int} (h0 : (v0 : Int) < v1) (h1 : (v2 : Int) = (v0 + 1)) (h2 : (v3 : Int) = v2) (h3 : (v4 : Int) = v1) : (v3 : Int) ≤ v4 := by omega
theorem om_ee1af4ef8bc3 {v0 : Int} (h0 : (v0 : Int) = 9) (h1 : (v0 : Int) = 0) : False := by omega
theorem om_ee2ada808de7 {v0 v2 : Int} {v1 v3 v4 : Nat} (h0 : (v0 : Int) ≤ 383) (h1 : (((v1 : Nat) : Int) : Int) = v2) (h2 : (v0 : Int) = ((((8 * ((24 * v1) + v3)) + v4) : Nat) : Int)) (h3 : (0 : Int) ≤ v2) : (((0 : Int) ≤ v0) ∧ ((v0 : Int) ≤ 383)) := by omega
theorem om_ee3cf9dc3048 {v0 v1 v2 v3 v4 : Int} (h0 : (v0 : Int) = v1) (h1 : (v0 : Int) ≤ v2) (h2 : (v3 : Int) = v2) (h3 : (v4 : Int) = v3) : (v1 : Int) ≤ v4 := by omega
theorem om_ee53cb890411 {v0 v1 v2 v3 : Int} (h0 : (v0 : Int) ≤ v1) (h1 : (v2 : Int) = (v1 + 1)) (h2 : (v3 : Int) = v2) : (v0 : Int) ≤ v3 := by omega
theorem om_ee8e8d49520d {v0 v2 v4 v5 : Int} {v1 v3 : Nat} (h0 : ((300 - v0) : Int) ≤ ((v1 : Nat) : Int)) (h1 : ((10 - v2) : Int) ≤ ((v3 : Nat) : Int)) (h2 : (v4 : Int) = v5) (h3 : (v5 : Int) ≤ (24 * (10 - v2))) (h4 : (v0 : Int) ≤ 300) (h5 : (0 : Int) < v4) : (((8 + (4 + 11)) + 0) : Nat) ≤ (((100 * v1) + (1000 * v3)) + 500) := by omega
theorem om_eecccc46626e {v0 v1 : Int} : ((v0 - v0) : Int) ≤ (v1 - v1) := by omega
theorem om_eee2c3e985a0 {v0 v1 v2 v3 : Int} (h0 : (0 : Int) ≤ v0) (h1 : (v0 : Int) ≤ 47) (h2 : (v1 : Int) ≤ 7) (h3 : (0 : Int) ≤ v1) (h4 : (v2 : Int) = v1) (h5 : (v3 : Int) = (8 * v0)) : ((((-2147483648) : Int) ≤ (v3 + v2)) ∧ (((v3 + v2) : Int) ≤ 2147483647)) := by omega
theorem om_ef34d576363e {v0 : Nat} : ((0 + 1) : Nat) ≤ ((2 * v0) + 1616) := by omega
theorem om_ef4d1bc62deb {v0 v1 : Nat} : (((((4 * v0) + (40 * v1)) + 11) + 1) : Nat) ≤ (((4 * v0) + (40 * v1)) + 12) := by omega
theorem om_ef51d1a21207 {v0 : Int} (h0 : (0 : Int) ≤ v0) (h1 : (v0 : Int) ≤ 0) : (v0 : Int) = 0 := by omega
theorem om_ef5c713ba60b {v0 v1 : Int} (h0 : (v0 : Int) ≤ 24) (h1 : (0 : Int) ≤ v1) (h2 : (v1 : Int) < v0) : ((((-2147483648) : Int) ≤ (v1 + 1)) ∧ (((v1 + 1) : Int) ≤ 2147483647)) := by omega
theorem om_ef73b2d85d7a {v0 : Int} (h0 : (v0 : Int) = 132) : (1 : Int) ≤ v0 := by omega
theorem om_ef8c008e8399 {v0 v1 : Nat} (h0 : ((24 * v0) : Nat) ≤ v1) : ((24 * v0) : Nat) ≤ v1 := by omega
theorem om_f00ff43a6068 {v0 v2 v3 v4 : Int} {v1 : Nat} (h0 : (v0 : Int) = (((v1 + 1) : Nat) : Int)) (h1 : (v2 : Int) = v0) (h2 : (v3 : Int) = (v2 - 1)) (h3 : (v4 : Int) = v3) : (v4 : Int) = ((v1 : Nat) : Int) := by omega
theorem om_f01548935650 {v0 v1 v2 v3 : Int} (h0 : (v0 : Int) = v1) (h1 : (0 : Int) ≤ v1) (h2 : (v1 : Int) ≤ 2048) (h3 : (v2 : Int) = (v0 - 1)) (h4 : (v3 : Int) = v2) : ((((-2147483648) : Int) ≤ (v3 + 1)) ∧ (((v3 + 1) : Int) ≤ 2147483647)) := by omega
theorem om_f034bfb12869 {v0 v1 : Int} (h0 : (0 : Int) ≤ v0) (h1 : (v0 : Int) ≤ 1) (h2 : (v1 : Int) = (1 - v0)) : (((0 : Int) ≤ v1) ∧ ((v1 : Int) ≤ 1)) := by omega
theorem om_f04cba5a5a1f {v0 v1 v2 v3 v4 v5 : Int} (h0 : (((v0 + v1) - v2) : Int) ≤ ((v3 + v4) - v5)) : (((v0 + v1) - v2) : Int) ≤ ((v3 + v4) - v5) := by omega
theorem om_f069f9799d0b {v0 v1 v2 : Int} (h0 : (0 : Int) ≤ v0) (h1 : (v0 : Int) ≤ 24) (h2 : (v1 : Int) ≤ 4) (h3 : (0 : Int) ≤ v2) (h4 : (v2 : Int) < v1) : ((((-2147483648) : Int) ≤ (v0 + v2)) ∧ (((v0 + v2) : Int) ≤ 2147483647)) := by omega
theorem om_f06fc66ee09b {v0 : Int} (h0 : (v0 : Int) ≤ 7) (h1 : (8 : Int) ≤ v0) : False := by omega
theorem om_f0732bfeccce {v0 : Nat} : (((8 + (4 + 11)) + 0) : Nat) ≤ ((300 * v0) + 300) := by omega
theorem om_f0b80f1cbc29 {v0 : Int} {v1 v2 : Nat} (h0 : (v0 : Int) = ((v1 : Nat) : Int)) (h1 : (v2 : Nat) < v1) : (0 : Int) ≤ v0 := by omega
theorem om_f0eb5e5fdd1f {v0 v1 v2 v3 v4 v5 v6 v7 v8 : Int} (h0 : (((v0 - v1) - v2) : Int) ≤ ((v3 - v4) - v5)) (h1 : (((v6 - v7) - v8) : Int) ≤ ((v0 - v1) - v2)) : (((v6 - v7) - v8) : Int) ≤ ((v3 - v4) - v5) := by omega
theorem om_f0ec0da15ce4 {v0 : Int} (h0 : (v0 : Int) = 0) : (((0 : Int) ≤ v0) ∧ ((v0 : Int) ≤ 25)) := by omega
theorem om_f0f01d3cc97d {v0 v1 v2 v3 : Int} (h0 : (0 : Int) ≤ v0) (h1 : (v0 : Int) ≤ 1) (h2 : (v1 : Int) = (24 * v0)) (h3 : (0 : Int) ≤ v2) (h4 : (v2 : Int) ≤ 23) (h5 : (v3 : Int) = (v1 + v2)) : ((((-2147483648) : Int) ≤ (20 * v3)) ∧ (((20 * v3) : Int) ≤ 2147483647)) := by omega
theorem om_f107e1d757fa {v1 : Int} {v0 : Nat} (h0 : (((v0 : Nat) : Int) : Int) ≤ ((84 * v1) + 56)) : (((v0 : Nat) : Int) : Int) ≤ ((84 * v1) + 56) := by omega
theorem om_f10c2cbaf4d5 {v0 v1 v2 v3 v4 v5 v6 v7 v8 v9 v10 v11 : Int} (h0 : (v0 : Int) = v1) (h1 : (v2 : Int) = v3) (h2 : (v4 : Int) = v5) (h3 : (((v6 - v7) - v8) : Int) ≤ ((v2 - v4) - v0)) (h4 : (v9 : Int) = v8) (h5 : (v10 : Int) = v7) (h6 : (v11 : Int) = v6) : (((v11 - v10) - v9) : Int) ≤ ((v3 - v5) - v1) := by omega
theorem om_f1292bc6192b {v0 v1 v2 v3 : Int} (h0 : (v0 : Int) ≤ (8 * v1)) (h1 : (v2 : Int) ≤ (v0 + 8)) (h2 : (v3 : Int) = (v1 + 1)) : (v2 : Int) ≤ (8 * v3) := by omega
theorem om_f150dd2841b6 {v0 v1 : Int} (h0 : (v0 : Int) ≤ 8200) (h1 : (0 : Int) ≤ v1) (h2 : (v1 : Int) < v0) : ((((-2147483648) : Int) ≤ (v1 + 1)) ∧ (((v1 + 1) : Int) ≤ 2147483647)) := by omega
theorem om_f1788462d221 {v0 : Int} (h0 : (v0 : Int) < 400) (h1 : (400 : Int) ≤ v0) : False := by omega
theorem om_f1803cbdaa1d {v0 v1 v2 : Int} (h0 : (v0 : Int) = (v1 + v2)) : (v0 : Int) = (v1 + v2) := by omega
theorem om_f1869f26ce78 {v0 v1 v2 v3 v4 v5 : Int} (h0 : (v0 : Int) ≤ 4000) (h1 : (0 : Int) ≤ v1) (h2 : (v1 : Int) ≤ v2) (h3 : (v3 : Int) ≤ v4) (h4 : (v4 : Int) = v0) (h5 : (v5 : Int) = (v3 - v2)) (h6 : (9 : Int) < v5) : ((((-2147483648) : Int) ≤ (v1 + 1)) ∧ (((v1 + 1) : Int) ≤ 2147483647)) := by omega
theorem om_f1910009b5d0 {v0 v1 v2 v3 v4 v5 : Int} (h0 : (((v0 - v1) - v2) : Int) ≤ ((v3 - v4) - v5)) : (((v0 - v1) - v2) : Int) ≤ ((v3 - v4) - v5) := by omega
theorem om_f1be64229e31 {v0 : Int} (h0 : (v0 : Int) ≤ 8) : (v0 : Int) ≤ 8 := by omega
theorem om_f1d4697d758d {v0 v1 v2 : Int} (h0 : (0 : Int) ≤ v0) (h1 : (v0 : Int) ≤ 23) (h2 : (v1 : Int) ≤ 39) (h3 : (0 : Int) ≤ v1) (h4 : (v2 : Int) = (24 * v1)) : ((((-2147483648) : Int) ≤ (v2 + v0)) ∧ (((v2 + v0) : Int) ≤ 2147483647)) := by omega
theorem om_f1e3a2569a38 {v0 v1 v2 : Int} (h0 : (0 : Int) ≤ v0) (h1 : (v1 : Int) = (v2 - v0)) (h2 : (12 : Int) < v1) : (0 : Int) ≤ v2 := by omega
theorem om_f1e744b7b00e {v0 v1 v2 v3 v4 v5 : Int} (h0 : ((v0 - v1) : Int) ≤ 990000) (h1 : (v2 : Int) = 0) (h2 : (v3 : Int) = v2) (h3 : (v4 : Int) = v1) (h4 : (v5 : Int) = v0) : (((v5 + v3) - v4) : Int) ≤ 999000 := by omega
theorem om_f23a71d1bd94 {v0 v1 v2 v3 v4 v5 v6 v7 v8 v9 v10 v11 v12 v13 v14 : Int} (h0 : (((v0 + v1) - v2) : Int) ≤ ((v3 + v4) - v5)) (h1 : (v6 : Int) = v2) (h2 : (v7 : Int) = v1) (h3 : (v8 : Int) = v0) (h4 : (((v9 + v10) - v11) : Int) ≤ ((v8 + v7) - v6)) (h5 : (v12 : Int) = v9) (h6 : (v13 : Int) = v11) (h7 : (v14 : Int) = v10) : (((v12 + v14) - v13) : Int) ≤ ((v3 + v4) - v5) := by omega
theorem om_f252d5c70457 {v0 : Int} (h0 : ((-1) : Int) ≤ v0) (h1 : (v0 : Int) ≤ 39) : ((((-1) : Int) ≤ v0) ∧ ((v0 : Int) ≤ 39)) := by omega
theorem om_f2755f8dba0a {v0 : Int} (h0 : (v0 : Int) ≤ 3) (h1 : (v0 : Int) ≠ 3) : (v0 : Int) ≤ 2 := by omega
theorem om_f27912378dd3 {v0 v1 : Int} (h0 : (v0 : Int) ≤ 1) (h1 : (v1 : Int) = (1 - v0)) : (0 : Int) ≤ v1 := by omega
theorem om_f2c651501407 {v0 : Int} (h0 : (v0 : Int) = 13) (h1 : (v0 : Int) = 0) : False := by omega
theorem om_f2d2798bcead {v0 v2 v3 : Int} {v1 : Nat} (h0 : ((10 - v0) : Int) ≤ ((v1 : Nat) : Int)) (h1 : (((v2 + (400 * ((v1 : Nat) : Int))) + 30) : Int) ≤ 19000) (h2 : (0 : Int) ≤ v2) (h3 : (v3 : Int) = v0) (h4 : (v3 : Int) ≤ 10) : (((0 : Int) ≤ v2) ∧ ((v2 : Int) ≤ 20000)) := by omega
theorem om_f309d6385888 {v0 : Int} (h0 : (v0 : Int) = 6) (h1 : (v0 : Int) = 12) : False := by omega
theorem om_f335fb5e8265 {v1 v2 v3 v4 v5 : Int} {v0 : Nat} (h0 : (((v0 : Nat) : Int) : Int) = v1) (h1 : (v2 : Int) = (10000 * ((v0 : Nat) : Int))) (h2 : (v2 : Int) ≤ 10000) (h3 : (v3 : Int) = (24 * v1)) (h4 : (0 : Int) ≤ v4) (h5 : (v4 : Int) ≤ 24) (h6 : (v5 : Int) = (v3 + v4)) (h7 : (v4 : Int) ≠ 24) : (((0 : Int) ≤ v5) ∧ ((v5 : Int) ≤ 47)) := by omega
theorem om_f33e638bd498 {v0 v1 v2 : Int} (h0 : (v0 : Int) = v1) (h1 : (v2 : Int) < v1) : (v2 : Int) < v0 := by omega
theorem om_f34346e088fb {v0 v1 v2 v3 v4 v5 v6 : Int} (h0 : (0 : Int) ≤ v0) (h1 : (v1 : Int) = (24 * v0)) (h2 : (0 : Int) ≤ v2) (h3 : (v3 : Int) = (v1 + v2)) (h4 : (0 : Int) ≤ v4) (h5 : (v5 : Int) = (24 * v3)) (h6 : (v6 : Int) = (v5 + v4)) : (0 : Int) ≤ v6 := by omega
theorem om_f379beda3da3 {v0 : Int} (h0 : (100 : Int) ≤ v0) : (0 : Int) ≤ v0 := by omega
theorem om_f3a192730b27 {v0 v1 v2 v3 v4 v5 : Int} (h0 : (((v0 + v1) - v2) : Int) ≤ 999000) (h1 : (v3 : Int) = v1) (h2 : (v4 : Int) = v2) (h3 : (v5 : Int) = v0) : (((v5 + v3) - v4) : Int) ≤ 999000 := by omega
theorem om_f3b1e9b55d45 {v0 : Int} {v1 : Nat} (h0 : (v0 : Int) = 0) (h1 : (v1 : Nat) = 0) : (((v1 : Nat) : Int) : Int) ≤ (28 * v0) := by omega
theorem om_f3c04a69af63 {v0 v1 v2 : Int} (h0 : (v0 : Int) ≤ 7) (h1 : (0 : Int) ≤ v0) (h2 : (v1 : Int) = v0) (h3 : (v2 : Int) = (v1 + 1)) : (((0 : Int) ≤ v2) ∧ ((v2 : Int) ≤ 8)) := by omega
theorem om_f3f8e6332068 {v0 : Int} (h0 : (48 : Int) ≤ v0) (h1 : (v0 : Int) ≤ 57) : (((48 : Int) ≤ v0) ∧ ((v0 : Int) ≤ 57)) := by omega
theorem om_f42760925b0b {v0 v1 v2 v3 v4 v5 v6 v7 v8 v9 v10 v11 : Int} (h0 : (v0 : Int) = v1) (h1 : (v2 : Int) = v3) (h2 : (v4 : Int) = v5) (h3 : (((v6 + v7) - v8) : Int) ≤ ((v4 + v0) - v2)) (h4 : (v9 : Int) = v8) (h5 : (v10 : Int) = v6) (h6 : (v11 : Int) = v7) : (((v10 + v11) - v9) : Int) ≤ ((v5 + v1) - v3) := by omega
theorem om_f480339aad33 {v0 : Int} (h0 : (v0 : Int) = 9) (h1 : (v0 : Int) = 14) : False := by omega
theorem om_f4906d00fa52 {v0 v1 : Int} (h0 : (v0 : Int) ≤ v1) : (v0 : Int) ≤ v1 := by omega
theorem om_f4a62807000a {v0 v1 : Int} (h0 : (v0 : Int) < v1) (h1 : (v1 : Int) ≤ 4000) (h2 : (0 : Int) ≤ v0) : ((((-2147483648) : Int) ≤ (v0 + 1)) ∧ (((v0 + 1) : Int) ≤ 2147483647)) := by omega
theorem om_f4aee0b9a3d0 {v0 : Int} (h0 : (1 : Int) ≤ v0) (h1 : (v0 : Int) < 40) : ((((-1) : Int) ≤ v0) ∧ ((v0 : Int) ≤ 39)) := by omega
theorem om_f4c803a81846 {v0 v2 v3 v4 : Int} {v1 : Nat} (h0 : (0 : Int) ≤ v0) (h1 : (((v1 : Nat) : Int) : Int) = v2) (h2 : (v3 : Int) = (8 * v2)) (h3 : (v4 : Int) = (v3 + v0)) : (0 : Int) ≤ v4 := by omega
theorem om_f4ec09d15507 {v0 : Int} (h0 : (1 : Int) ≤ v0) (h1 : (v0 : Int) ≤ 0) : False := by omega
theorem om_f4ecaeba4d96 {v0 v1 v2 v3 v4 v5 v6 : Int} (h0 : (v0 : Int) ≤ 25) (h1 : (((25 * (8 - v1)) - v0) : Int) ≤ ((25 * (8 - v2)) - v3)) (h2 : (v4 : Int) = (v1 + 1)) (h3 : (v5 : Int) = v4) (h4 : (v6 : Int) = 0) : (((25 * (8 - v5)) - v6) : Int) ≤ ((25 * (8 - v2)) - v3) := by omega
theorem om_f4eeecdf3ac8 {v0 v1 : Int} (h0 : (0 : Int) ≤ v0) (h1 : (v0 : Int) ≤ 20) (h2 : (v0 : Int) ≠ 20) (h3 : (v1 : Int) = (v0 + 1)) : (((0 : Int) ≤ v1) ∧ ((v1 : Int) ≤ 20)) := by omega
theorem om_f52419b73d7d {v0 : Int} (h0 : (0 : Int) ≤ v0) (h1 : (v0 : Int) ≤ 23) : ((((-1) : Int) ≤ v0) ∧ ((v0 : Int) ≤ 23)) := by omega
theorem om_f52473e75984 {v0 : Int} (h0 : (v0 : Int) = 15) (h1 : (v0 : Int) ≠ 15) : False := by omega
theorem om_f530ea408148 {v0 : Int} (h0 : (v0 : Int) = 0) : ((7 - v0) : Int) < 9 := by omega
theorem om_f57763d8aa52 {v1 : Int} {v0 : Nat} (h0 : (((v0 : Nat) : Int) : Int) ≤ ((28 * v1) + 26)) (h1 : (v1 : Int) ≤ 10) : (v0 : Nat) ≤ 394 := by omega
theorem om_f5a2411b9512 {v0 : Int} (h0 : (0 : Int) ≤ v0) (h1 : (v0 : Int) ≤ 12) : (((0 : Int) ≤ v0) ∧ ((v0 : Int) ≤ 24)) := by omega
theorem om_f5ac24a99763 {v0 : Int} (h0 : (v0 : Int) = 5) (h1 : (v0 : Int) = 3) : False := by omega
theorem om_f5de5c24eabd {v0 : Nat} : ((10000 * ((v0 : Nat) : Int)) : Int) = (10000 * ((v0 : Nat) : Int)) := by omega
theorem om_f5fd12a4c2bb {v1 v3 v5 : Int} {v0 v2 v4 : Nat} (h0 : (((v0 : Nat) : Int) : Int) ≤ ((28 * v1) + (2 * ((v2 : Nat) : Int)))) (h1 : (v3 : Int) = v1) (h2 : (v4 : Nat) = (v0 + 1)) (h3 : (v5 : Int) = v3) : (((v4 : Nat) : Int) : Int) ≤ (((28 * v5) + 1) + (2 * ((v2 : Nat) : Int))) := by omega
theorem om_f60e36d76712 {v0 : Nat} : (((8 + (2 + 11)) + ((300 * v0) + 265)) : Nat) ≤ ((300 * v0) + 290) := by omega
theorem om_f61feb2e2de9 {v0 v1 : Int} (h0 : (0 : Int) ≤ v0) (h1 : (v0 : Int) ≠ 0) (h2 : (v1 : Int) = v0) (h3 : (v1 : Int) ≤ 0) : False := by omega
theorem om_f6338ed50341 {v0 : Int} (h0 : (0 : Int) ≤ v0) (h1 : (v0 : Int) < 40) : ((((-2147483648) : Int) ≤ (v0 + 1)) ∧ (((v0 + 1) : Int) ≤ 2147483647)) := by omega
theorem om_f6427b28de10 {v0 v1 v2 v3 v4 v5 v6 v7 v8 v9 v10 v11 : Int} (h0 : (v0 : Int) = (v1 + 1)) (h1 : (v2 : Int) = v0) (h2 : (v3 : Int) = v4) (h3 : ((v5 - v3) : Int) ≤ (v6 - v2)) (h4 : ((v7 - v5) : Int) ≤ (v8 - v6)) (h5 : (v9 : Int) = (v7 + 1)) (h6 : (v10 : Int) = v8) (h7 : (v11 : Int) = v9) : ((v11 - v4) : Int) ≤ (v10 - v1) := by omega
theorem om_f68890bd9a1b {v0 v1 v2 v3 v4 : Int} (h0 : (v0 : Int) ≤ v1) (h1 : (v2 : Int) = v1) (h2 : (v2 : Int) ≤ v3) (h3 : (v4 : Int) = (v3 + 1)) : (v0 : Int) ≤ v4 := by omega
theorem om_f6898a7e6c0b {v0 v2 : Int} {v1 : Nat} (h0 : ((v0 + ((v1 : Nat) : Int)) : Int) = 8) (h1 : (v2 : Int) = v0) : ((v2 + ((v1 : Nat) : Int)) : Int) = 8 := by omega
theorem om_f6c611e966ad {v1 : Int} {v0 v2 : Nat} (h0 : (((v0 : Nat) : Int) : Int) ≤ (((28 * v1) + 1) + (2 * ((v2 : Nat) : Int)))) (h1 : (v2 : Nat) ≤ 12) (h2 : (v1 : Int) ≤ 10) : (v0 : Nat) ≤ 394 := by omega
theorem om_f6cd13a04f42 {v0 v1 : Int} {v2 : Nat} (h0 : (0 : Int) ≤ v0) (h1 : (v0 : Int) = (v1 - ((v2 : Nat) : Int))) : (0 : Int) ≤ v1 := by omega
theorem om_f6f02652fb17 {v0 : Int} {v1 : Nat} (h0 : (v0 : Int) ≤ 8) (h1 : ((8 - v0) : Int) ≤ ((v1 : Nat) : Int)) : ((0 + 1) : Nat) ≤ ((10 * v1) + 9) := by omega
theorem om_f6f09c087be8 {v0 v1 v2 v3 v4 v5 v6 v7 : Int} (h0 : (v0 : Int) ≤ v1) (h1 : (v2 : Int) = v0) (h2 : (v3 : Int) = v1) (h3 : ((v4 - v2) : Int) ≤ (v5 - v3)) (h4 : (v6 : Int) = v5) (h5 : (v7 : Int) = v4) : (v7 : Int) ≤ v6 := by omega
theorem om_f6f243504409 {v0 v1 : Int} (h0 : (v0 : Int) ≤ 24) (h1 : (v1 : Int) < v0) (h2 : (0 : Int) ≤ v1) : ((((-1) : Int) ≤ v1) ∧ ((v1 : Int) ≤ 47)) := by omega
theorem om_f703b94af139 {v0 v1 v2 v3 v4 v5 v6 v7 v8 v9 v10 v11 v12 : Int} (h0 : (0 : Int) ≤ v0) (h1 : (v1 : Int) ≤ 3000) (h2 : (v2 : Int) = 0) (h3 : (v3 : Int) = v4) (h4 : (v5 : Int) = 0) (h5 : (v6 : Int) = v2) (h6 : (((v7 - v8) - v9) : Int) ≤ ((v5 - v6) - v3)) (h7 : (v10 : Int) = v9) (h8 : (v11 : Int) = v7) (h9 : (v12 : Int) = v8) : (((v11 - v12) - v10) : Int) ≤ (((v0 - v1) - v4) + 3000) := by omega
theorem om_f707afd86f4b {v0 v1 v3 v6 : Int} {v2 v4 v5 : Nat} (h0 : (v0 : Int) ≤ 12) (h1 : ((300 - v1) : Int) ≤ ((v2 : Nat) : Int)) (h2 : ((10 - v3) : Int) ≤ ((v4 : Nat) : Int)) (h3 : ((12 - v0) : Int) ≤ ((v5 : Nat) : Int)) (h4 : (v1 : Int) ≤ 300) (h5 : (v6 : Int) = v3) (h6 : (v6 : Int) ≤ 10) : (((8 + (2 + 11)) + 0) : Nat) ≤ ((((100 * v2) + (1000 * v4)) + 588) + (60 * v5)) := by omega
theorem om_f713d0030a91 {v0 v1 v2 v3 : Int} (h0 : (v0 : Int) ≤ v1) (h1 : (v1 : Int) ≤ v2) (h2 : (v3 : Int) = v0) : (v3 : Int) ≤ v2 := by omega
theorem om_f725c6527e42 {v0 : Int} (h0 : (0 : Int) ≤ v0) (h1 : (v0 : Int) ≤ 20) (h2 : (v0 : Int) ≠ 20) : ((((-1) : Int) ≤ v0) ∧ ((v0 : Int) ≤ 19)) := by omega
theorem om_f7374d1647dd {v0 v1 v2 v3 v4 : Int} (h0 : (v0 : Int) ≤ v1) (h1 : (((v2 + v3) - v0) : Int) ≤ 999000) (h2 : (v1 : Int) ≤ 300) (h3 : (0 : Int) ≤ v3) (h4 : (300 : Int) ≤ v2) (h5 : (v4 : Int) = (v2 + 1)) : (((0 : Int) ≤ v4) ∧ ((v4 : Int) ≤ 1000000)) := by omega
theorem om_f73bf33877bf {v0 : Int} (h0 : (v0 : Int) ≤ 39) (h1 : (0 : Int) < v0) : ((((-1) : Int) ≤ v0) ∧ ((v0 : Int) ≤ 39)) := by omega
theorem om_f75a30b4c815 {v0 v1 v2 : Int} (h0 : (v0 : Int) ≤ v1) (h1 : (v2 : Int) = (v1 + 1)) : (v0 : Int) ≤ v2 := by omega
theorem om_f75c7fdf50ff {v0 v1 v2 v3 : Int} (h0 : (v0 : Int) = (v1 + 1)) (h1 : (v2 : Int) = v0) (h2 : (v3 : Int) = v2) : (v3 : Int) = (v1 + 1) := by omega
theorem om_f76bf361f956 {v0 : Int} (h0 : (v0 : Int) ≤ 999999) : (v0 : Int) ≤ 999999 := by omega
theorem om_f770854b4059 {v0 v1 v2 v3 : Int} (h0 : (0 : Int) ≤ v0) (h1 : (0 : Int) ≤ v1) (h2 : (v2 : Int) = (8 * v0)) (h3 : (v3 : Int) = (v2 + v1)) : (0 : Int) ≤ v3 := by omega
theorem om_f82fee59341f {v0 : Int} (h0 : (0 : Int) ≤ v0) (h1 : (v0 : Int) ≤ 24) : (((0 : Int) ≤ v0) ∧ ((v0 : Int) ≤ 24)) := by omega
theorem om_f86f8dbf6764 {v1 v2 v3 v4 : Int} {v0 : Nat} (h0 : (((v0 : Nat) : Int) : Int) = v1) (h1 : (v2 : Int) = (24 * v1)) (h2 : (0 : Int) ≤ v3) (h3 : (v4 : Int) = (v2 + v3)) : (0 : Int) ≤ v4 := by omega
theorem om_f884d2586d25 {v0 v1 v2 : Int} (h0 : (v0 : Int) = 1) (h1 : (v1 : Int) = (v0 + (16 * v2))) : (v1 : Int) = (1 + (16 * v2)) := by omega
theorem om_f893fc5824a8 {v1 v2 : Int} {v0 v3 : Nat} (h0 : (v0 : Nat) < 2) (h1 : (v1 : Int) ≤ 12) (h2 : (v2 : Int) < v1) (h3 : (((v3 : Nat) : Int) : Int) = v2) : (((12 * v0) + v3) : Nat) < 24 := by omega
theorem om_f8d8213eda45 {v0 : Int} (h0 : (1 : Int) ≤ v0) : (1 : Int) ≤ v0 := by omega
theorem om_f8f531ed37ab {v0 : Int} {v1 : Nat} (h0 : (v0 : Int) = 0) : (v0 : Int) ≤ ((v1 : Nat) : Int) := by omega
theorem om_f92aeb5a09ea {v0 v1 : Int} (h0 : (v0 : Int) ≤ 250000) (h1 : (0 : Int) ≤ v1) (h2 : (v1 : Int) < v0) : ((((-2147483648) : Int) ≤ (v0 + 1)) ∧ (((v0 + 1) : Int) ≤ 2147483647)) := by omega
theorem om_f940a4667dd6 {v0 : Nat} (h0 : (v0 : Nat) < 2) : (v0 : Nat) < 2 := by omega
theorem om_f971e48495aa {v0 v1 v2 v3 : Int} (h0 : (v0 : Int) < v1) (h1 : (v2 : Int) = (v0 + 1)) (h2 : (v3 : Int) = v1) : (v2 : Int) ≤ v3 := by omega
theorem om_f9770b8f4221 {v1 v2 v3 v4 v5 v7 v8 v9 : Int} {v0 v6 v10 : Nat} (h0 : (((v0 : Nat) : Int) : Int) = v1) (h1 : (v2 : Int) = v3) (h2 : (v4 : Int) = (24 * v1)) (h3 : (v5 : Int) = (v4 + v2)) (h4 : (((v6 : Nat) : Int) : Int) = ((24 * ((v0 : Nat) : Int)) + v3)) (h5 : (0 : Int) ≤ v7) (h6 : (v8 : Int) = (24 * v5)) (h7 : (v9 : Int) = (v8 + v7)) (h8 : (((v10 : Nat) : Int) : Int) = v9) : ((24 * v6) : Nat) ≤ v10 := by omega
theorem om_f9dc9c403a6b {v0 v1 : Int} (h0 : (v0 : Int) ≤ 4) (h1 : (0 : Int) ≤ v1) (h2 : (v1 : Int) < v0) : ((((-2147483648) : Int) ≤ (v1 + 1)) ∧ (((v1 + 1) : Int) ≤ 2147483647)) := by omega
theorem om_fa19ac06e9a0 {v0 v1 : Int} {v2 : Nat} (h0 : (v0 : Int) ≤ 24) (h1 : (0 : Int) ≤ v1) (h2 : (v1 : Int) = (v0 - ((v2 : Nat) : Int))) : (((0 : Int) ≤ v1) ∧ ((v1 : Int) ≤ 24)) := by omega
theorem om_fa27125521dc {v0 : Int} (h0 : (v0 : Int) = 10) (h1 : (v0 : Int) = 14) : False := by omega
theorem om_fa5a8d8ee723 {v0 v1 v2 v3 v4 v5 v6 v7 v8 v9 : Int} (h0 : (((v0 + v1) - v2) : Int) ≤ 999000) (h1 : (((v3 + v4) - v5) : Int) ≤ ((v0 + v1) - v2)) (h2 : (v6 : Int) = (v4 - 1)) (h3 : (v7 : Int) = v5) (h4 : (v8 : Int) = v6) (h5 : (v9 : Int) = v3) : (((v9 + v8) - v7) : Int) ≤ 999000 := by omega
theorem om_fadc4eb740be {v0 v2 : Int} {v1 : Nat} (h0 : ((20 - v0) : Int) < ((v1 : Nat) : Int)) (h1 : (v2 : Int) = (v0 + 1)) : ((20 - v2) : Int) < ((v1 : Nat) : Int) := by omega
theorem om_fb320d7600b7 {v0 : Int} (h0 : (0 : Int) ≤ v0) (h1 : (v0 : Int) = 0) (h2 : (v0 : Int) ≠ 0) : False := by omega
theorem om_fb56619e55db {v0 v1 v2 : Int} (h0 : (0 : Int) ≤ v0) (h1 : (0 : Int) ≤ v1) (h2 : ((v0 + v1) : Int) = v2) : (0 : Int) ≤ v2 := by omega
theorem om_fb62160a9b03 {v0 v1 v2 v3 : Int} (h0 : (0 : Int) ≤ v0) (h1 : (v0 : Int) ≤ 1) (h2 : (v1 : Int) = (24 * v0)) (h3 : (0 : Int) ≤ v2) (h4 : (v2 : Int) ≤ 24) (h5 : (v3 : Int) = (v1 + v2)) (h6 : (v2 : Int) ≠ 24) : (((0 : Int) ≤ v3) ∧ ((v3 : Int) ≤ 47)) := by omega
theorem om_fb8e2a868ece {v0 v1 : Int} (h0 : (v0 : Int) ≤ 4000) (h1 : (0 : Int) ≤ v1) (h2 : (v1 : Int) < v0) : (((0 : Int) ≤ v1) ∧ ((v1 : Int) ≤ 4000)) := by omega
theorem om_fc0a03057b6c {v0 v1 v2 v3 v4 v5 : Int} (h0 : (v0 : Int) = v1) (h1 : (v2 : Int) = v3) (h2 : (v4 : Int) = v5) : (((v4 - v2) - v0) : Int) ≤ ((v5 - v3) - v1) := by omega
theorem om_fc142a606eb8 {v0 v2 : Int} {v1 : Nat} (h0 : (v0 : Int) = 0) (h1 : (v1 : Nat) = 0) (h2 : (v2 : Int) = v0) : (((v1 : Nat) : Int) : Int) ≤ ((84 * v2) + 84) := by omega
theorem om_fc1487c5ce99 {v1 v3 : Int} {v0 v2 v4 : Nat} (h0 : (v0 : Nat) < 2) (h1 : (v1 : Int) = ((v2 : Nat) : Int)) (h2 : (v2 : Nat) ≤ 24) (h3 : (v3 : Int) < v1) (h4 : (((v4 : Nat) : Int) : Int) = v3) : (((24 * v0) + v4) : Nat) < 48 := by omega
theorem om_fc3c2b4d5466 {v2 v5 v6 : Int} {v0 v1 v3 v4 : Nat} (h0 : (v0 : Nat) = 24) (h1 : (((v1 : Nat) : Int) : Int) = v2) (h2 : (((24 * v3) + v1) : Nat) = ((24 * v3) + v4)) (h3 : (v5 : Int) = ((((24 * v3) + v1) : Nat) : Int)) (h4 : (v6 : Int) = v5) (h5 : (v2 : Int) < ((v0 : Nat) : Int)) : ((((24 * ((v3 : Nat) : Int)) : Int) ≤ v6) ∧ ((v6 : Int) < ((24 * ((v3 : Nat) : Int)) + 24))) := by omega
theorem om_fc707d651fd0 {v0 : Nat} : ((5 + 1) : Nat) ≤ ((10 * v0) + 15) := by omega
theorem om_fc84c92ae077 {v0 v1 v2 v3 : Int} (h0 : (0 : Int) ≤ v0) (h1 : (v0 : Int) ≤ 1) (h2 : ((-1) : Int) ≤ v1) (h3 : (v1 : Int) ≤ 23) (h4 : (v2 : Int) = (24 * v0)) (h5 : (v3 : Int) = (v2 + v1)) : ((((-2147483648) : Int) ≤ (24 * v3)) ∧ (((24 * v3) : Int) ≤ 2147483647)) := by omega
theorem om_fcc611ecf7b0 {v0 v1 v2 v3 v4 v5 : Int} (h0 : (0 : Int) ≤ v0) (h1 : (v1 : Int) ≤ v2) (h2 : (v3 : Int) = (v0 * 24)) (h3 : (v4 : Int) = (v3 + v2)) (h4 : (v5 : Int) = (v4 - v1)) : (0 : Int) ≤ v5 := by omega
theorem om_fd05ba55400f {v0 : Int} (h0 : (v0 : Int) = 8) (h1 : (v0 : Int) = 14) : False := by omega
theorem om_fd09720ec7c5 {v0 v1 v2 v3 v4 v5 v6 : Int} (h0 : (((v0 - v1) - v2) : Int) ≤ 900000000) (h1 : (v1 : Int) ≤ 3000) (h2 : (v3 : Int) = 0) (h3 : (v4 : Int) = v2) (h4 : (v5 : Int) = v0) (h5 : (v6 : Int) = v3) : (((v5 - v6) - v4) : Int) ≤ 1000000000 := by omega
theorem om_fd2435d327c9 {v0 v2 v3 : Int} {v1 : Nat} (h0 : (v0 : Int) = ((v1 : Nat) : Int)) (h1 : (v2 : Int) = (v0 + 1)) (h2 : (v3 : Int) = v2) : (v3 : Int) = (((v1 : Nat) : Int) + 1) := by omega
theorem om_fd5cdca56366 {v1 v2 v3 : Int} {v0 : Nat} (h0 : ((((v0 : Nat) : Int) + 1) : Int) = v1) (h1 : (v2 : Int) = v3) (h2 : (v3 : Int) = v1) : ((((v0 : Nat) : Int) + 1) : Int) = v2 := by omega
theorem om_fd72d50bc7f1 {v0 v1 v3 v4 v6 : Int} {v2 v5 : Nat} (h0 : (((v0 - v1) + ((v2 : Nat) : Int)) : Int) ≤ 998000) (h1 : (((v3 - v4) + ((v5 : Nat) : Int)) : Int) ≤ ((v0 - v1) + ((v2 : Nat) : Int))) (h2 : (v6 : Int) = 0) : (((v3 + v6) - v4) : Int) ≤ 999000 := by omega
theorem om_fd7621cf2ee5 {v0 v1 v2 v3 v4 : Int} (h0 : (v0 : Int) ≤ 24) (h1 : (v1 : Int) = v0) (h2 : (0 : Int) ≤ v2) (h3 : (v2 : Int) ≤ v3) (h4 : (v3 : Int) < v1) (h5 : (v4 : Int) = (v2 + 1)) : (((0 : Int) ≤ v4) ∧ ((v4 : Int) ≤ 24)) := by omega
theorem om_fd8b4c0e21a5 {v0 v1 : Int} (h0 : (v0 : Int) = 0) (h1 : (v1 : Int) ≤ (8051 - (6 * v0))) : (v1 : Int) ≤ 9999 := by omega
theorem om_fd8d4a8321fd {v0 v1 v2 : Int} (h0 : (v0 : Int) = 5) (h1 : (v1 : Int) = (v0 + (16 * v2))) : (v1 : Int) = (5 + (16 * v2)) := by omega
theorem om_fd9066f9ee7e {v0 v1 v2 : Int} (h0 : (v0 : Int) = v1) (h1 : (v1 : Int) ≤ 24) (h2 : ((-1) : Int) ≤ v2) (h3 : (v2 : Int) < v0) : ((((-1) : Int) ≤ v2) ∧ ((v2 : Int) ≤ 23)) := by omega
theorem om_fd99fc2c0081 {v0 v1 v2 : Int} (h0 : (v0 : Int) ≤ 24) (h1 : (0 : Int) ≤ v1) (h2 : (v1 : Int) < v0) (h3 : (v2 : Int) = (v1 + 1)) : (((0 : Int) ≤ v2) ∧ ((v2 : Int) ≤ 48)) := by omega
theorem om_fda86f17f472 {v0 v1 : Int} {v2 : Nat} (h0 : (v0 : Int) = 0) (h1 : (v1 : Int) = v0) : ((((v2 : Nat) : Int) - v1) : Int) < (((v2 : Nat) : Int) + 1) := by omega
theorem om_fdad02d66478 {v0 : Int} {v1 v2 : Nat} (h0 : (0 : Int) ≤ v0) (h1 : (((v1 : Nat) : Int) : Int) = v0) : ((12 * v2) : Nat) ≤ ((12 * v2) + v1) := by omega
theorem om_fdcbe5ad3467 {v1 v4 : Int} {v0 v2 v3 v5 v6 : Nat} (h0 : (((v0 : Nat) : Int) : Int) = v1) (h1 : (((10000 * v2) + v3) : Nat) = v0) (h2 : (v4 : Int) = (v1 + 1)) (h3 : (((v5 : Nat) : Int) : Int) = ((v6 : Nat) : Int)) : (((((v5 : Nat) : Int) : Int) = ((v6 : Nat) : Int)) ∧ ((v4 : Int) = ((((10000 * v2) + (v3 + 1)) : Nat) : Int))) := by omega
theorem om_fdd22f6c4444 {v0 v1 v2 v3 v4 v5 : Int} (h0 : (v0 : Int) = (v1 + 1)) (h1 : (v2 : Int) = v0) (h2 : (v2 : Int) ≤ v3) (h3 : (v3 : Int) ≤ v4) (h4 : (v5 : Int) = v4) : (v1 : Int) ≤ v5 := by omega
theorem om_fdd9c7754232 {v0 : Nat} : ((0 + 1) : Nat) ≤ ((10 * v0) + 12) := by omega
theorem om_fe3f2d1f4ad9 {v0 v1 v2 v3 v4 v5 v7 : Int} {v6 : Nat} (h0 : (v0 : Int) = 0) (h1 : (0 : Int) ≤ v1) (h2 : (v2 : Int) = v3) (h3 : ((v2 + 1) : Int) ≤ v4) (h4 : (v5 : Int) ≤ ((v6 : Nat) : Int)) (h5 : ((v4 + 1) : Int) ≤ v5) (h6 : (v7 : Int) ≤ v3) (h7 : ((v1 + 1) : Int) ≤ v7) : (((0 : Int) ≤ v5) ∧ ((((v5 : Int) ≤ ((v6 : Nat) : Int)) ∧ ((((v0 : Int) = 0) ∧ (((v1 + 1) : Int) ≤ v5)))))) := by omega
theorem om_fe57dcb39c04 {v0 v1 : Int} (h0 : (0 : Int) ≤ v0) (h1 : (v0 : Int) < 400) (h2 : (v1 : Int) = (v0 + 1)) : (((0 : Int) ≤ v1) ∧ ((v1 : Int) ≤ 400)) := by omega
theorem om_fe783a30f02e {v0 : Int} (h0 : (v0 : Int) = 1) (h1 : (v0 : Int) = 15) : False := by omega
theorem om_fe9cfc9f65ab {v0 v1 v2 v3 : Int} (h0 : (v0 : Int) = v1) (h1 : (v1 : Int) = v2) (h2 : (v3 : Int) = v0) : (v2 : Int) ≤ v3 := by omega
theorem om_fec3cc53e679 {v0 v1 v2 v3 v4 v5 v6 v7 v8 v9 v10 v11 v12 : Int} (h0 : (v0 : Int) = v1) (h1 : (v2 : Int) = v3) (h2 : (v4 : Int) = v5) (h3 : (((v6 - v7) - v8) : Int) ≤ (((v2 - v4) - v0) + 1)) (h4 : (v9 : Int) = v8) (h5 : (v10 : Int) = v7) (h6 : (v11 : Int) = v6) (h7 : (v5 : Int) = (v12 + 1)) : (((v11 - v10) - v9) : Int) ≤ ((v3 - v12) - v1) := by omega
theorem om_ff3fc84f1c65 {v0 v1 v2 : Int} (h0 : (0 : Int) ≤ v0) (h1 : (v1 : Int) = 0) (h2 : (v2 : Int) = v0) : (v1 : Int) ≤ v2 := by omega
theorem om_ffd1a4208a61 {v1 v4 : Int} {v0 v2 v3 v5 v6 v7 : Nat} (h0 : (((v0 : Nat) : Int) : Int) = v1) (h1 : (((10000 * v2) + v3) : Nat) = v0) (h2 : (v4 : Int) = (v1 + 1)) (h3 : (v5 : Nat) = v6) (h4 : (((v6 : Nat) : Int) : Int) = ((v7 : Nat) : Int)) : (((((v5 : Nat) : Int) : Int) = ((v7 : Nat) : Int)) ∧ ((v4 : Int) = ((((10000 * v2) + (v3 + 1)) : Nat) : Int))) := by omega
theorem om_fffcc5fb54c4 {v0 : Int} (h0 : (v0 : Int) = 8) (h1 : (v0 : Int) = 13) : False := by omega
theorem om_ffff025b4caa {v0 : Int} (h0 : (v0 : Int) = 999999999) : (v0 : Int) ≤ 999999999 := by omega
/-! bits -/
theorem bn_of {x : Int32} {n : Nat} (h : 0 ≤ x.toInt ∧ x.toInt < (n : Int)) : x.toBitVec.toNat < n ∧ (x.toBitVec.toNat : Int) = x.toInt := by
  have h2 : x.toInt = x.toBitVec.toInt := rfl
  have h3 := BitVec.toInt_eq_toNat_cond x.toBitVec
  have h4 := x.toBitVec.isLt
  rw [h2] at h ⊢
  rw [h3] at h ⊢
  split at h <;> split <;> omega
theorem bn_to {x : Int32} {n : Nat} (h : x.toBitVec.toNat < n) (hn : n ≤ 2147483648) : 0 ≤ x.toInt ∧ x.toInt < (n : Int) ∧ x.toInt = (x.toBitVec.toNat : Int) := by
  have h2 : x.toInt = x.toBitVec.toInt := rfl
  have h3 : x.toBitVec.toInt = (x.toBitVec.toNat : Int) := BitVec.toInt_eq_toNat_of_lt (by omega)
  omega
theorem or24 {x y z : Int32} (e : z = x ||| y) (hx : 0 ≤ x.toInt ∧ x.toInt < 16777216) (hy : 0 ≤ y.toInt ∧ y.toInt < 16777216) : 0 ≤ z.toInt ∧ z.toInt < 16777216 := by
  have ax := (bn_of (x := x) (n := 2 ^ 24) hx).1
  have ay := (bn_of (x := y) (n := 2 ^ 24) hy).1
  have az : z.toBitVec.toNat < 2 ^ 24 := by
    rw [e]
    show (x.toBitVec ||| y.toBitVec).toNat < 2 ^ 24
    rw [BitVec.toNat_or]
    exact Nat.or_lt_two_pow ax ay
  have b := bn_to az (by decide)
  exact ⟨b.1, b.2.1⟩
theorem shl_all : ∀ n : Fin 24, 0 ≤ ((1 : Int32) <<< (nI n.val &&& 31)).toInt ∧ ((1 : Int32) <<< (nI n.val &&& 31)).toInt < 16777216 := by decide +kernel
theorem shl1 {k z : Int32} (e : z = 1 <<< (k &&& 31)) (h : 0 ≤ k.toInt ∧ k.toInt ≤ 23) : 0 ≤ z.toInt ∧ z.toInt < 16777216 := by
  have c := i_clamp (x := k) rfl h.1
  have hk : k = nI (Int32.toNatClampNeg k) := Int32.toInt_inj.mp (by rw [nI_toInt (by omega)]; omega)
  rw [e, hk]
  exact shl_all ⟨Int32.toNatClampNeg k, by omega⟩
theorem and_left {x y z : Int32} (e : z = x &&& y) (hx : 0 ≤ x.toInt) : 0 ≤ z.toInt ∧ z.toInt ≤ x.toInt := by
  have f := i_full x
  have ax := bn_of (x := x) (n := 2147483648) ⟨hx, by omega⟩
  have az : z.toBitVec.toNat ≤ x.toBitVec.toNat := by
    rw [e]
    show (x.toBitVec &&& y.toBitVec).toNat ≤ _
    rw [BitVec.toNat_and]
    exact Nat.and_le_left
  have b := bn_to (x := z) (n := 2147483648) (by omega) (by decide)
  omega
theorem ushr_n {x y z : Int32} (e : z = (x.toUInt32 >>> (y.toUInt32 &&& Int32.toUInt32 31)).toInt32) (hx : 0 ≤ x.toInt) {k : Nat} (hk : y.toInt = (k : Int)) (h32 : k < 32) : z.toInt = ((x.toBitVec.toNat / 2 ^ k : Nat) : Int) ∧ (x.toBitVec.toNat : Int) = x.toInt := by
  have f := i_full x
  have ax := bn_of (x := x) (n := 2147483648) ⟨hx, by omega⟩
  have ay := bn_of (x := y) (n := 32) ⟨by omega, by omega⟩
  have hyk : y.toBitVec.toNat = k := by omega
  have hz : z.toBitVec.toNat = x.toBitVec.toNat / 2 ^ k := by
    rw [e]
    show (x.toUInt32 >>> (y.toUInt32 &&& Int32.toUInt32 31)).toNat = _
    rw [UInt32.toNat_shiftRight, UInt32.toNat_and]
    have e1 : (Int32.toUInt32 31).toNat = 2 ^ 5 - 1 := by decide
    have e2 : y.toUInt32.toNat = k := hyk
    have e3 : x.toUInt32.toNat = x.toBitVec.toNat := rfl
    rw [e1, Nat.and_two_pow_sub_one_eq_mod, e2, e3, Nat.mod_eq_of_lt (show k < 2 ^ 5 from h32), Nat.mod_eq_of_lt h32, Nat.shiftRight_eq_div_pow]
  have b := bn_to (x := z) (n := 2147483648) (by rw [hz]; exact Nat.lt_of_le_of_lt (Nat.div_le_self _ _) ax.1) (by decide)
  rw [b.2.2, hz]
  exact ⟨rfl, ax.2⟩
theorem ushr_l {x y z : Int32} {P : Nat} (e : z = (x.toUInt32 >>> (y.toUInt32 &&& Int32.toUInt32 31)).toInt32) (hx : 0 ≤ x.toInt) {k : Nat} (hk : y.toInt = (k : Int)) (h32 : k < 32) (hP : 2 ^ k = P) : z.toInt = x.toInt / (P : Int) := by
  have h := ushr_n e hx hk h32
  rw [h.1, hP, ← h.2]
  exact Int.natCast_ediv _ _
theorem ushr_24 {x y z : Int32} (e : z = (x.toUInt32 >>> (y.toUInt32 &&& Int32.toUInt32 31)).toInt32) (hx : 0 ≤ x.toInt ∧ x.toInt < 16777216) (hy : 0 ≤ y.toInt ∧ y.toInt < 24) : 0 ≤ z.toInt ∧ z.toInt < ((2 ^ (24 - y.toInt.toNat) : Nat) : Int) := by
  have h := ushr_n (k := y.toInt.toNat) e hx.1 (by omega) (by omega)
  have hX : x.toBitVec.toNat < 2 ^ 24 := by have := h.2; omega
  have q : x.toBitVec.toNat / 2 ^ y.toInt.toNat < 2 ^ (24 - y.toInt.toNat) := by
    rw [Nat.div_lt_iff_lt_mul (Nat.two_pow_pos _), ← Nat.pow_add, show 24 - y.toInt.toNat + y.toInt.toNat = 24 from by omega]
    exact hX
  rw [h.1]
  exact ⟨Int.natCast_nonneg _, Int.ofNat_lt.mpr q⟩
theorem ushr_0 {x y z : Int32} (e : z = (x.toUInt32 >>> (y.toUInt32 &&& Int32.toUInt32 31)).toInt32) (hx : 0 ≤ x.toInt ∧ x.toInt < 16777216) (hy : 24 ≤ y.toInt ∧ y.toInt < 32) : z.toInt = 0 := by
  have h := ushr_n (k := y.toInt.toNat) e hx.1 (by omega) (by omega)
  have hX : x.toBitVec.toNat < 2 ^ 24 := by have := h.2; omega
  have q : 2 ^ 24 ≤ 2 ^ y.toInt.toNat := Nat.pow_le_pow_right (by decide) (by omega)
  rw [h.1, Nat.div_eq_of_lt (by omega)]
  rfl
theorem ntz_y {x a c y : Int32} (e1 : a = x ^^^ (-1)) (e2 : c = x - 1) (e3 : y = a &&& c) (hx : 0 < x.toInt) : 0 ≤ y.toInt ∧ y.toInt < x.toInt ∧ ∀ m : Nat, x.toInt < ((2 ^ m : Nat) : Int) → x.toInt + y.toInt < ((2 ^ m : Nat) : Int) := by
  have f := i_full x
  have ec : c.toInt = x.toInt - 1 := i_sub e2 rfl (by decide) (by omega)
  have ax := bn_of (x := x) (n := 2147483648) ⟨by omega, by omega⟩
  have ac := bn_of (x := c) (n := 2147483648) ⟨by omega, by omega⟩
  have ey : y.toBitVec = (x.toBitVec ^^^ BitVec.allOnes 32) &&& c.toBitVec := by rw [e3, e1]; rfl
  have az : y.toBitVec.toNat ≤ c.toBitVec.toNat := by
    rw [ey, BitVec.toNat_and]
    exact Nat.and_le_right
  have b := bn_to (x := y) (n := 2147483648) (by omega) (by decide)
  have hz : x.toBitVec &&& y.toBitVec = 0#32 := by
    rw [ey]
    ext i hi
    rw [BitVec.getElem_and, BitVec.getElem_and, BitVec.getElem_xor, BitVec.getElem_allOnes, BitVec.getElem_zero]
    generalize x.toBitVec[i] = u
    generalize c.toBitVec[i] = v
    cases u <;> cases v <;> rfl
  refine ⟨b.1, by omega, fun m hm => ?_⟩
  have s := congrArg BitVec.toNat (BitVec.add_eq_or_of_and_eq_zero x.toBitVec y.toBitVec hz)
  rw [BitVec.toNat_add, BitVec.toNat_or, Nat.mod_eq_of_lt (by omega)] at s
  have hX : x.toBitVec.toNat < 2 ^ m := by omega
  have o := Nat.or_lt_two_pow hX (show y.toBitVec.toNat < 2 ^ m by omega)
  omega
theorem ntz_k {k m P : Nat} {x y : Int} (hP : 2 ^ k = P) (h1 : (P : Int) ≤ y) (h2 : x + y < ((2 ^ m : Nat) : Int)) (h3 : y < x) : k + 1 < m := by
  rcases Nat.lt_or_ge (k + 1) m with h | h
  · exact h
  · exfalso
    have q : 2 ^ m ≤ 2 ^ (k + 1) := Nat.pow_le_pow_right (by decide) h
    have q2 : 2 ^ (k + 1) = 2 * P := by rw [Nat.pow_succ, hP, Nat.mul_comm]
    omega
theorem ntz_0 {m : Nat} {x : Int} (h0 : 0 < x) (h : x < ((2 ^ m : Nat) : Int)) : 0 < m := by
  rcases Nat.eq_zero_or_pos m with h2 | h2
  · subst h2
    have : ((2 ^ 0 : Nat) : Int) = 1 := by decide
    omega
  · exact h2


abbrev r_x_nTZ2 : Room := { frames := 0, cells := 0, slots := 0, locals := 0 }
abbrev q_x_nTZ2 (D : va_G) (p0 : Int32) (A : Nat → Prop) : Array Value → State → Outcome → State → Prop := va_Qi (fun (r : Int32) (_ : Unit) => (0 ≤ r.toInt ∧ r.toInt ≤ 32) ∧ (∀ m : Nat, 0 < p0.toInt → p0.toInt < ((2 ^ m : Nat) : Int) → r.toInt < (m : Int))) (fun _ t => gq D A [] [] t) A
set_option maxHeartbeats 4000000 in
set_option maxRecDepth 100000 in
theorem x_nTZ2 (l : Launch) (D : va_G) (ks : KS) (sz : Nat) (p0 : Int32)  : Met l yJ6_numberOfTrailingZeros_0f7a4 (Cond.code yJ6_numberOfTrailingZeros_0f7a4 cJ6_numberOfTrailingZeros_0f7a4 2 (some .int) :: GW) r_x_nTZ2 (va_Pc [.int p0] (gp D ks ([]) ([]) sz)) (q_x_nTZ2 D p0 (va_A ([]) sz)) 0 0 (va_A ([]) sz) := by
  refine g_met (q_x_nTZ2 D p0) (by decide) (Nat.le_of_ble_eq_true rfl) ?_
  intro p e s m below meth c A ls H locs hx hb hr hml hown hg hlocks hin hnw hgk hP hK hD hS hA hl
  have hown : s.vm.findClass RJ6 = some m.cls := hown
  have hl : lv_has ls 2 [(0, .int p0)] := hl
  refine lv_iload_n hx hb dJ6_numberOfTrailingZeros_0f7a4_0 rfl (lv_at hl 0 rfl) ?_
  refine lv_iconst (v := (-1)) hx hb dJ6_numberOfTrailingZeros_0f7a4_1 (by decide) ?_
  refine lv_ixor hx hb dJ6_numberOfTrailingZeros_0f7a4_2 ?_
  refine lv_topi (fun z1 ez1 => ?_)
  refine lv_iload_n hx hb dJ6_numberOfTrailingZeros_0f7a4_3 rfl (lv_at hl 0 rfl) ?_
  refine lv_iconst (v := 1) hx hb dJ6_numberOfTrailingZeros_0f7a4_4 (by decide) ?_
  refine lv_isub hx hb dJ6_numberOfTrailingZeros_0f7a4_5 ?_
  have r2 := i_full p0
  refine lv_topi (fun z3 ez3 => ?_)
  have hz3 : Imp (-2147483648 ≤ p0.toInt - 1 ∧ p0.toInt - 1 ≤ 2147483647) (z3.toInt = p0.toInt - 1) := Imp.mk (fun hp => i_sub ez3 rfl (by decide) hp)
  refine lv_iand hx hb dJ6_numberOfTrailingZeros_0f7a4_6 ?_
  refine lv_topi (fun z4 ez4 => ?_)
  have nyf := i_full z4
  have nty : 0 < p0.toInt → _ := fun h => ntz_y ez1 ez3 ez4 h
  refine lv_istore_n (lv' := [(0, .int z4)]) hx hb dJ6_numberOfTrailingZeros_0f7a4_7 rfl hl (by decide) rfl (fun ls hl => ?_)
  refine lv_iload_n hx hb dJ6_numberOfTrailingZeros_0f7a4_8 rfl (lv_at hl 0 rfl) ?_
  refine lv_if_gt (tgt := 17) hx hb dJ6_numberOfTrailingZeros_0f7a4_9 (by decide) (fun c5 => ?_) (fun c5 => ?_)
  · skip
    have f6 : 0 < z4.toInt := b_lt (by decide) rfl c5
    refine lv_iconst (v := 1) hx hb dJ6_numberOfTrailingZeros_0f7a4_17 (by decide) ?_
    refine lv_istore_n (lv' := [(1, .int 1), (0, .int z4)]) hx hb dJ6_numberOfTrailingZeros_0f7a4_18 rfl hl (by decide) rfl (fun ls hl => ?_)
    refine lv_iload_n hx hb dJ6_numberOfTrailingZeros_0f7a4_19 rfl (lv_at hl 1 rfl) ?_
    refine lv_ldcw (v := 65536) hx hb hown (hg _ w1145) dJ6_numberOfTrailingZeros_0f7a4_20 ?_
    refine lv_icmp_le (tgt := 34) hx hb dJ6_numberOfTrailingZeros_0f7a4_23 (by decide) (fun c7 => ?_) (fun c7 => ?_)
    · skip
      have f8 : z4.toInt ≤ 65536 := b_le rfl (by decide) c7
      refine lv_iload_n hx hb dJ6_numberOfTrailingZeros_0f7a4_34 rfl (lv_at hl 1 rfl) ?_
      refine lv_sipush (v := 256) hx hb dJ6_numberOfTrailingZeros_0f7a4_35 (by decide) ?_
      refine lv_icmp_le (tgt := 49) hx hb dJ6_numberOfTrailingZeros_0f7a4_38 (by decide) (fun c9 => ?_) (fun c9 => ?_)
      · skip
        have f10 : z4.toInt ≤ 256 := b_le rfl (by decide) c9
        refine lv_iload_n hx hb dJ6_numberOfTrailingZeros_0f7a4_49 rfl (lv_at hl 1 rfl) ?_
        refine lv_bipush (v := 16) hx hb dJ6_numberOfTrailingZeros_0f7a4_50 (by decide) ?_
        refine lv_icmp_le (tgt := 62) hx hb dJ6_numberOfTrailingZeros_0f7a4_52 (by decide) (fun c11 => ?_) (fun c11 => ?_)
        · skip
          have f12 : z4.toInt ≤ 16 := b_le rfl (by decide) c11
          refine lv_iload_n hx hb dJ6_numberOfTrailingZeros_0f7a4_62 rfl (lv_at hl 1 rfl) ?_
          refine lv_iconst (v := 4) hx hb dJ6_numberOfTrailingZeros_0f7a4_63 (by decide) ?_
          refine lv_icmp_le (tgt := 74) hx hb dJ6_numberOfTrailingZeros_0f7a4_64 (by decide) (fun c13 => ?_) (fun c13 => ?_)
          · skip
            have f14 : z4.toInt ≤ 4 := b_le rfl (by decide) c13
            refine lv_iload_n hx hb dJ6_numberOfTrailingZeros_0f7a4_74 rfl (lv_at hl 0 rfl) ?_
            refine lv_iload_n hx hb dJ6_numberOfTrailingZeros_0f7a4_75 rfl (lv_at hl 1 rfl) ?_
            refine lv_iconst (v := 1) hx hb dJ6_numberOfTrailingZeros_0f7a4_76 (by decide) ?_
            refine lv_iushr hx hb dJ6_numberOfTrailingZeros_0f7a4_77 rfl ?_
            refine lv_topi (fun z15 ez15 => ?_)
            have hz15 : z15.toInt = z4.toInt / 2 := ushr_l (P := 2) (k := 1) ez15 (by first | omega | ((try (have i_hz3 := Imp.go hz3 (by omega))); omega)) (by decide) (by decide) (by decide)
            refine lv_iadd hx hb dJ6_numberOfTrailingZeros_0f7a4_78 ?_
            refine lv_topi (fun z16 ez16 => ?_)
            have hz16 : z16.toInt = 1 + z15.toInt := i_add ez16 (by decide) rfl (by omega)
            exact W.iret (v := z16) hx hb hr (fun t ht hW => ⟨⟨z16, (), rfl, ⟨(show 0 ≤ z16.toInt ∧ z16.toInt ≤ 32 from by first | omega | ((try (have i_hz3 := Imp.go hz3 (by omega))); omega)), (fun m h0 hm => (show z16.toInt < (m : Int) from by
                have a := nty h0
                have a1 := a.2.1
                have a2 := a.2.2 m hm
                rcases (show z15.toInt = 0 ∨ z15.toInt = 1 ∨ z15.toInt = 2 from by omega) with hh | hh | hh
                · have q := ntz_k (P := 1) (k := 0) (m := m) (by decide) (by omega) a2 a1
                  omega
                · have q := ntz_k (P := 2) (k := 1) (m := m) (by decide) (by omega) a2 a1
                  omega
                · have q := ntz_k (P := 4) (k := 2) (m := m) (by decide) (by omega) a2 a1
                  omega))⟩, by rw [ht]; exact hP, va_K.moved hW.alike hK, hD⟩, hS.F ht⟩) hS.2.2 dJ6_numberOfTrailingZeros_0f7a4_79
          · skip
            have f17 : 4 < z4.toInt := b_nle rfl (by decide) c13
            refine lv_iinc (v := 3) (lv' := [(1, .int 3), (0, .int z4)]) hx hb dJ6_numberOfTrailingZeros_0f7a4_67 hl (k := 0) rfl (by decide) (by decide) rfl (fun ls hl => ?_)
            refine lv_iload_n hx hb dJ6_numberOfTrailingZeros_0f7a4_70 rfl (lv_at hl 1 rfl) ?_
            refine lv_iconst (v := 2) hx hb dJ6_numberOfTrailingZeros_0f7a4_71 (by decide) ?_
            refine lv_iushr hx hb dJ6_numberOfTrailingZeros_0f7a4_72 rfl ?_
            refine lv_topi (fun z18 ez18 => ?_)
            have hz18 : z18.toInt = z4.toInt / 4 := ushr_l (P := 4) (k := 2) ez18 (by first | omega | ((try (have i_hz3 := Imp.go hz3 (by omega))); omega)) (by decide) (by decide) (by decide)
            refine lv_istore_n (lv' := [(0, .int z18), (1, .int 3)]) hx hb dJ6_numberOfTrailingZeros_0f7a4_73 rfl hl (by decide) rfl (fun ls hl => ?_)
            refine lv_iload_n hx hb dJ6_numberOfTrailingZeros_0f7a4_74 rfl (lv_at hl 1 rfl) ?_
            refine lv_iload_n hx hb dJ6_numberOfTrailingZeros_0f7a4_75 rfl (lv_at hl 0 rfl) ?_
            refine lv_iconst (v := 1) hx hb dJ6_numberOfTrailingZeros_0f7a4_76 (by decide) ?_
            refine lv_iushr hx hb dJ6_numberOfTrailingZeros_0f7a4_77 rfl ?_
            refine lv_topi (fun z19 ez19 => ?_)
            have hz19 : z19.toInt = z18.toInt / 2 := ushr_l (P := 2) (k := 1) ez19 (by first | omega | ((try (have i_hz3 := Imp.go hz3 (by omega))); omega)) (by decide) (by decide) (by decide)
            refine lv_iadd hx hb dJ6_numberOfTrailingZeros_0f7a4_78 ?_
            refine lv_topi (fun z20 ez20 => ?_)
            have hz20 : z20.toInt = 3 + z19.toInt := i_add ez20 (by decide) rfl (by omega)
            exact W.iret (v := z20) hx hb hr (fun t ht hW => ⟨⟨z20, (), rfl, ⟨(show 0 ≤ z20.toInt ∧ z20.toInt ≤ 32 from by first | omega | ((try (have i_hz3 := Imp.go hz3 (by omega))); omega)), (fun m h0 hm => (show z20.toInt < (m : Int) from by
                have a := nty h0
                have a1 := a.2.1
                have a2 := a.2.2 m hm
                rcases (show z19.toInt = 0 ∨ z19.toInt = 1 ∨ z19.toInt = 2 from by omega) with hh | hh | hh
                · have q := ntz_k (P := 4) (k := 2) (m := m) (by decide) (by omega) a2 a1
                  omega
                · have q := ntz_k (P := 8) (k := 3) (m := m) (by decide) (by omega) a2 a1
                  omega
                · have q := ntz_k (P := 16) (k := 4) (m := m) (by decide) (by omega) a2 a1
                  omega))⟩, by rw [ht]; exact hP, va_K.moved hW.alike hK, hD⟩, hS.F ht⟩) hS.2.2 dJ6_numberOfTrailingZeros_0f7a4_79
        · skip
          have f21 : 16 < z4.toInt := b_nle rfl (by decide) c11
          refine lv_iinc (v := 5) (lv' := [(1, .int 5), (0, .int z4)]) hx hb dJ6_numberOfTrailingZeros_0f7a4_55 hl (k := 0) rfl (by decide) (by decide) rfl (fun ls hl => ?_)
          refine lv_iload_n hx hb dJ6_numberOfTrailingZeros_0f7a4_58 rfl (lv_at hl 1 rfl) ?_
          refine lv_iconst (v := 4) hx hb dJ6_numberOfTrailingZeros_0f7a4_59 (by decide) ?_
          refine lv_iushr hx hb dJ6_numberOfTrailingZeros_0f7a4_60 rfl ?_
          refine lv_topi (fun z22 ez22 => ?_)
          have hz22 : z22.toInt = z4.toInt / 16 := ushr_l (P := 16) (k := 4) ez22 (by first | omega | ((try (have i_hz3 := Imp.go hz3 (by omega))); omega)) (by decide) (by decide) (by decide)
          refine lv_istore_n (lv' := [(0, .int z22), (1, .int 5)]) hx hb dJ6_numberOfTrailingZeros_0f7a4_61 rfl hl (by decide) rfl (fun ls hl => ?_)
          refine lv_iload_n hx hb dJ6_numberOfTrailingZeros_0f7a4_62 rfl (lv_at hl 0 rfl) ?_
          refine lv_iconst (v := 4) hx hb dJ6_numberOfTrailingZeros_0f7a4_63 (by decide) ?_
          refine lv_icmp_le (tgt := 74) hx hb dJ6_numberOfTrailingZeros_0f7a4_64 (by decide) (fun c23 => ?_) (fun c23 => ?_)
          · skip
            have f24 : z22.toInt ≤ 4 := b_le rfl (by decide) c23
            refine lv_iload_n hx hb dJ6_numberOfTrailingZeros_0f7a4_74 rfl (lv_at hl 1 rfl) ?_
            refine lv_iload_n hx hb dJ6_numberOfTrailingZeros_0f7a4_75 rfl (lv_at hl 0 rfl) ?_
            refine lv_iconst (v := 1) hx hb dJ6_numberOfTrailingZeros_0f7a4_76 (by decide) ?_
            refine lv_iushr hx hb dJ6_numberOfTrailingZeros_0f7a4_77 rfl ?_
            refine lv_topi (fun z25 ez25 => ?_)
            have hz25 : z25.toInt = z22.toInt / 2 := ushr_l (P := 2) (k := 1) ez25 (by first | omega | ((try (have i_hz3 := Imp.go hz3 (by omega))); omega)) (by decide) (by decide) (by decide)
            refine lv_iadd hx hb dJ6_numberOfTrailingZeros_0f7a4_78 ?_
            refine lv_topi (fun z26 ez26 => ?_)
            have hz26 : z26.toInt = 5 + z25.toInt := i_add ez26 (by decide) rfl (by omega)
            exact W.iret (v := z26) hx hb hr (fun t ht hW => ⟨⟨z26, (), rfl, ⟨(show 0 ≤ z26.toInt ∧ z26.toInt ≤ 32 from by first | omega | ((try (have i_hz3 := Imp.go hz3 (by omega))); omega)), (fun m h0 hm => (show z26.toInt < (m : Int) from by
                have a := nty h0
                have a1 := a.2.1
                have a2 := a.2.2 m hm
                rcases (show z25.toInt = 0 ∨ z25.toInt = 1 ∨ z25.toInt = 2 from by omega) with hh | hh | hh
                · have q := ntz_k (P := 16) (k := 4) (m := m) (by decide) (by omega) a2 a1
                  omega
                · have q := ntz_k (P := 32) (k := 5) (m := m) (by decide) (by omega) a2 a1
                  omega
                · have q := ntz_k (P := 64) (k := 6) (m := m) (by decide) (by omega) a2 a1
                  omega))⟩, by rw [ht]; exact hP, va_K.moved hW.alike hK, hD⟩, hS.F ht⟩) hS.2.2 dJ6_numberOfTrailingZeros_0f7a4_79
          · skip
            have f27 : 4 < z22.toInt := b_nle rfl (by decide) c23
            refine lv_iinc (v := 7) (lv' := [(1, .int 7), (0, .int z22)]) hx hb dJ6_numberOfTrailingZeros_0f7a4_67 hl (k := 1) rfl (by decide) (by decide) rfl (fun ls hl => ?_)
            refine lv_iload_n hx hb dJ6_numberOfTrailingZeros_0f7a4_70 rfl (lv_at hl 1 rfl) ?_
            refine lv_iconst (v := 2) hx hb dJ6_numberOfTrailingZeros_0f7a4_71 (by decide) ?_
            refine lv_iushr hx hb dJ6_numberOfTrailingZeros_0f7a4_72 rfl ?_
            refine lv_topi (fun z28 ez28 => ?_)
            have hz28 : z28.toInt = z22.toInt / 4 := ushr_l (P := 4) (k := 2) ez28 (by first | omega | ((try (have i_hz3 := Imp.go hz3 (by omega))); omega)) (by decide) (by decide) (by decide)
            refine lv_istore_n (lv' := [(0, .int z28), (1, .int 7)]) hx hb dJ6_numberOfTrailingZeros_0f7a4_73 rfl hl (by decide) rfl (fun ls hl => ?_)
            refine lv_iload_n hx hb dJ6_numberOfTrailingZeros_0f7a4_74 rfl (lv_at hl 1 rfl) ?_
            refine lv_iload_n hx hb dJ6_numberOfTrailingZeros_0f7a4_75 rfl (lv_at hl 0 rfl) ?_
            refine lv_iconst (v := 1) hx hb dJ6_numberOfTrailingZeros_0f7a4_76 (by decide) ?_
            refine lv_iushr hx hb dJ6_numberOfTrailingZeros_0f7a4_77 rfl ?_
            refine lv_topi (fun z29 ez29 => ?_)
            have hz29 : z29.toInt = z28.toInt / 2 := ushr_l (P := 2) (k := 1) ez29 (by first | omega | ((try (have i_hz3 := Imp.go hz3 (by omega))); omega)) (by decide) (by decide) (by decide)
            refine lv_iadd hx hb dJ6_numberOfTrailingZeros_0f7a4_78 ?_
            refine lv_topi (fun z30 ez30 => ?_)
            have hz30 : z30.toInt = 7 + z29.toInt := i_add ez30 (by decide) rfl (by omega)
            exact W.iret (v := z30) hx hb hr (fun t ht hW => ⟨⟨z30, (), rfl, ⟨(show 0 ≤ z30.toInt ∧ z30.toInt ≤ 32 from by first | omega | ((try (have i_hz3 := Imp.go hz3 (by omega))); omega)), (fun m h0 hm => (show z30.toInt < (m : Int) from by
                have a := nty h0
                have a1 := a.2.1
                have a2 := a.2.2 m hm
                rcases (show z29.toInt = 0 ∨ z29.toInt = 1 ∨ z29.toInt = 2 from by omega) with hh | hh | hh
                · have q := ntz_k (P := 64) (k := 6) (m := m) (by decide) (by omega) a2 a1
                  omega
                · have q := ntz_k (P := 128) (k := 7) (m := m) (by decide) (by omega) a2 a1
                  omega
                · have q := ntz_k (P := 256) (k := 8) (m := m) (by decide) (by omega) a2 a1
                  omega))⟩, by rw [ht]; exact hP, va_K.moved hW.alike hK, hD⟩, hS.F ht⟩) hS.2.2 dJ6_numberOfTrailingZeros_0f7a4_79
      · skip
        have f31 : 256 < z4.toInt := b_nle rfl (by decide) c9
        refine lv_iinc (v := 9) (lv' := [(1, .int 9), (0, .int z4)]) hx hb dJ6_numberOfTrailingZeros_0f7a4_41 hl (k := 0) rfl (by decide) (by decide) rfl (fun ls hl => ?_)
        refine lv_iload_n hx hb dJ6_numberOfTrailingZeros_0f7a4_44 rfl (lv_at hl 1 rfl) ?_
        refine lv_bipush (v := 8) hx hb dJ6_numberOfTrailingZeros_0f7a4_45 (by decide) ?_
        refine lv_iushr hx hb dJ6_numberOfTrailingZeros_0f7a4_47 rfl ?_
        refine lv_topi (fun z32 ez32 => ?_)
        have hz32 : z32.toInt = z4.toInt / 256 := ushr_l (P := 256) (k := 8) ez32 (by first | omega | ((try (have i_hz3 := Imp.go hz3 (by omega))); omega)) (by decide) (by decide) (by decide)
        refine lv_istore_n (lv' := [(0, .int z32), (1, .int 9)]) hx hb dJ6_numberOfTrailingZeros_0f7a4_48 rfl hl (by decide) rfl (fun ls hl => ?_)
        refine lv_iload_n hx hb dJ6_numberOfTrailingZeros_0f7a4_49 rfl (lv_at hl 0 rfl) ?_
        refine lv_bipush (v := 16) hx hb dJ6_numberOfTrailingZeros_0f7a4_50 (by decide) ?_
        refine lv_icmp_le (tgt := 62) hx hb dJ6_numberOfTrailingZeros_0f7a4_52 (by decide) (fun c33 => ?_) (fun c33 => ?_)
        · skip
          have f34 : z32.toInt ≤ 16 := b_le rfl (by decide) c33
          refine lv_iload_n hx hb dJ6_numberOfTrailingZeros_0f7a4_62 rfl (lv_at hl 0 rfl) ?_
          refine lv_iconst (v := 4) hx hb dJ6_numberOfTrailingZeros_0f7a4_63 (by decide) ?_
          refine lv_icmp_le (tgt := 74) hx hb dJ6_numberOfTrailingZeros_0f7a4_64 (by decide) (fun c35 => ?_) (fun c35 => ?_)
          · skip
            have f36 : z32.toInt ≤ 4 := b_le rfl (by decide) c35
            refine lv_iload_n hx hb dJ6_numberOfTrailingZeros_0f7a4_74 rfl (lv_at hl 1 rfl) ?_
            refine lv_iload_n hx hb dJ6_numberOfTrailingZeros_0f7a4_75 rfl (lv_at hl 0 rfl) ?_
            refine lv_iconst (v := 1) hx hb dJ6_numberOfTrailingZeros_0f7a4_76 (by decide) ?_
            refine lv_iushr hx hb dJ6_numberOfTrailingZeros_0f7a4_77 rfl ?_
            refine lv_topi (fun z37 ez37 => ?_)
            have hz37 : z37.toInt = z32.toInt / 2 := ushr_l (P := 2) (k := 1) ez37 (by first | omega | ((try (have i_hz3 := Imp.go hz3 (by omega))); omega)) (by decide) (by decide) (by decide)
            refine lv_iadd hx hb dJ6_numberOfTrailingZeros_0f7a4_78 ?_
            refine lv_topi (fun z38 ez38 => ?_)
            have hz38 : z38.toInt = 9 + z37.toInt := i_add ez38 (by decide) rfl (by omega)
            exact W.iret (v := z38) hx hb hr (fun t ht hW => ⟨⟨z38, (), rfl, ⟨(show 0 ≤ z38.toInt ∧ z38.toInt ≤ 32 from by first | omega | ((try (have i_hz3 := Imp.go hz3 (by omega))); omega)), (fun m h0 hm => (show z38.toInt < (m : Int) from by
                have a := nty h0
                have a1 := a.2.1
                have a2 := a.2.2 m hm
                rcases (show z37.toInt = 0 ∨ z37.toInt = 1 ∨ z37.toInt = 2 from by omega) with hh | hh | hh
                · have q := ntz_k (P := 256) (k := 8) (m := m) (by decide) (by omega) a2 a1
                  omega
                · have q := ntz_k (P := 512) (k := 9) (m := m) (by decide) (by omega) a2 a1
                  omega
                · have q := ntz_k (P := 1024) (k := 10) (m := m) (by decide) (by omega) a2 a1
                  omega))⟩, by rw [ht]; exact hP, va_K.moved hW.alike hK, hD⟩, hS.F ht⟩) hS.2.2 dJ6_numberOfTrailingZeros_0f7a4_79
          · skip
            have f39 : 4 < z32.toInt := b_nle rfl (by decide) c35
            refine lv_iinc (v := 11) (lv' := [(1, .int 11), (0, .int z32)]) hx hb dJ6_numberOfTrailingZeros_0f7a4_67 hl (k := 1) rfl (by decide) (by decide) rfl (fun ls hl => ?_)
            refine lv_iload_n hx hb dJ6_numberOfTrailingZeros_0f7a4_70 rfl (lv_at hl 1 rfl) ?_
            refine lv_iconst (v := 2) hx hb dJ6_numberOfTrailingZeros_0f7a4_71 (by decide) ?_
            refine lv_iushr hx hb dJ6_numberOfTrailingZeros_0f7a4_72 rfl ?_
            refine lv_topi (fun z40 ez40 => ?_)
            have hz40 : z40.toInt = z32.toInt / 4 := ushr_l (P := 4) (k := 2) ez40 (by first | omega | ((try (have i_hz3 := Imp.go hz3 (by omega))); omega)) (by decide) (by decide) (by decide)
            refine lv_istore_n (lv' := [(0, .int z40), (1, .int 11)]) hx hb dJ6_numberOfTrailingZeros_0f7a4_73 rfl hl (by decide) rfl (fun ls hl => ?_)
            refine lv_iload_n hx hb dJ6_numberOfTrailingZeros_0f7a4_74 rfl (lv_at hl 1 rfl) ?_
            refine lv_iload_n hx hb dJ6_numberOfTrailingZeros_0f7a4_75 rfl (lv_at hl 0 rfl) ?_
            refine lv_iconst (v := 1) hx hb dJ6_numberOfTrailingZeros_0f7a4_76 (by decide) ?_
            refine lv_iushr hx hb dJ6_numberOfTrailingZeros_0f7a4_77 rfl ?_
            refine lv_topi (fun z41 ez41 => ?_)
            have hz41 : z41.toInt = z40.toInt / 2 := ushr_l (P := 2) (k := 1) ez41 (by first | omega | ((try (have i_hz3 := Imp.go hz3 (by omega))); omega)) (by decide) (by decide) (by decide)
            refine lv_iadd hx hb dJ6_numberOfTrailingZeros_0f7a4_78 ?_
            refine lv_topi (fun z42 ez42 => ?_)
            have hz42 : z42.toInt = 11 + z41.toInt := i_add ez42 (by decide) rfl (by omega)
            exact W.iret (v := z42) hx hb hr (fun t ht hW => ⟨⟨z42, (), rfl, ⟨(show 0 ≤ z42.toInt ∧ z42.toInt ≤ 32 from by first | omega | ((try (have i_hz3 := Imp.go hz3 (by omega))); omega)), (fun m h0 hm => (show z42.toInt < (m : Int) from by
                have a := nty h0
                have a1 := a.2.1
                have a2 := a.2.2 m hm
                rcases (show z41.toInt = 0 ∨ z41.toInt = 1 ∨ z41.toInt = 2 from by omega) with hh | hh | hh
                · have q := ntz_k (P := 1024) (k := 10) (m := m) (by decide) (by omega) a2 a1
                  omega
                · have q := ntz_k (P := 2048) (k := 11) (m := m) (by decide) (by omega) a2 a1
                  omega
                · have q := ntz_k (P := 4096) (k := 12) (m := m) (by decide) (by omega) a2 a1
                  omega))⟩, by rw [ht]; exact hP, va_K.moved hW.alike hK, hD⟩, hS.F ht⟩) hS.2.2 dJ6_numberOfTrailingZeros_0f7a4_79
        · skip
          have f43 : 16 < z32.toInt := b_nle rfl (by decide) c33
          refine lv_iinc (v := 13) (lv' := [(1, .int 13), (0, .int z32)]) hx hb dJ6_numberOfTrailingZeros_0f7a4_55 hl (k := 1) rfl (by decide) (by decide) rfl (fun ls hl => ?_)
          refine lv_iload_n hx hb dJ6_numberOfTrailingZeros_0f7a4_58 rfl (lv_at hl 1 rfl) ?_
          refine lv_iconst (v := 4) hx hb dJ6_numberOfTrailingZeros_0f7a4_59 (by decide) ?_
          refine lv_iushr hx hb dJ6_numberOfTrailingZeros_0f7a4_60 rfl ?_
          refine lv_topi (fun z44 ez44 => ?_)
          have hz44 : z44.toInt = z32.toInt / 16 := ushr_l (P := 16) (k := 4) ez44 (by first | omega | ((try (have i_hz3 := Imp.go hz3 (by omega))); omega)) (by decide) (by decide) (by decide)
          refine lv_istore_n (lv' := [(0, .int z44), (1, .int 13)]) hx hb dJ6_numberOfTrailingZeros_0f7a4_61 rfl hl (by decide) rfl (fun ls hl => ?_)
          refine lv_iload_n hx hb dJ6_numberOfTrailingZeros_0f7a4_62 rfl (lv_at hl 0 rfl) ?_
          refine lv_iconst (v := 4) hx hb dJ6_numberOfTrailingZeros_0f7a4_63 (by decide) ?_
          refine lv_icmp_le (tgt := 74) hx hb dJ6_numberOfTrailingZeros_0f7a4_64 (by decide) (fun c45 => ?_) (fun c45 => ?_)
          · skip
            have f46 : z44.toInt ≤ 4 := b_le rfl (by decide) c45
            refine lv_iload_n hx hb dJ6_numberOfTrailingZeros_0f7a4_74 rfl (lv_at hl 1 rfl) ?_
            refine lv_iload_n hx hb dJ6_numberOfTrailingZeros_0f7a4_75 rfl (lv_at hl 0 rfl) ?_
            refine lv_iconst (v := 1) hx hb dJ6_numberOfTrailingZeros_0f7a4_76 (by decide) ?_
            refine lv_iushr hx hb dJ6_numberOfTrailingZeros_0f7a4_77 rfl ?_
            refine lv_topi (fun z47 ez47 => ?_)
            have hz47 : z47.toInt = z44.toInt / 2 := ushr_l (P := 2) (k := 1) ez47 (by first | omega | ((try (have i_hz3 := Imp.go hz3 (by omega))); omega)) (by decide) (by decide) (by decide)
            refine lv_iadd hx hb dJ6_numberOfTrailingZeros_0f7a4_78 ?_
            refine lv_topi (fun z48 ez48 => ?_)
            have hz48 : z48.toInt = 13 + z47.toInt := i_add ez48 (by decide) rfl (by omega)
            exact W.iret (v := z48) hx hb hr (fun t ht hW => ⟨⟨z48, (), rfl, ⟨(show 0 ≤ z48.toInt ∧ z48.toInt ≤ 32 from by first | omega | ((try (have i_hz3 := Imp.go hz3 (by omega))); omega)), (fun m h0 hm => (show z48.toInt < (m : Int) from by
                have a := nty h0
                have a1 := a.2.1
                have a2 := a.2.2 m hm
                rcases (show z47.toInt = 0 ∨ z47.toInt = 1 ∨ z47.toInt = 2 from by omega) with hh | hh | hh
                · have q := ntz_k (P := 4096) (k := 12) (m := m) (by decide) (by omega) a2 a1
                  omega
                · have q := ntz_k (P := 8192) (k := 13) (m := m) (by decide) (by omega) a2 a1
                  omega
                · have q := ntz_k (P := 16384) (k := 14) (m := m) (by decide) (by omega) a2 a1
                  omega))⟩, by rw [ht]; exact hP, va_K.moved hW.alike hK, hD⟩, hS.F ht⟩) hS.2.2 dJ6_numberOfTrailingZeros_0f7a4_79
          · skip
            have f49 : 4 < z44.toInt := b_nle rfl (by decide) c45
            refine lv_iinc (v := 15) (lv' := [(1, .int 15), (0, .int z44)]) hx hb dJ6_numberOfTrailingZeros_0f7a4_67 hl (k := 1) rfl (by decide) (by decide) rfl (fun ls hl => ?_)
            refine lv_iload_n hx hb dJ6_numberOfTrailingZeros_0f7a4_70 rfl (lv_at hl 1 rfl) ?_
            refine lv_iconst (v := 2) hx hb dJ6_numberOfTrailingZeros_0f7a4_71 (by decide) ?_
            refine lv_iushr hx hb dJ6_numberOfTrailingZeros_0f7a4_72 rfl ?_
            refine lv_topi (fun z50 ez50 => ?_)
            have hz50 : z50.toInt = z44.toInt / 4 := ushr_l (P := 4) (k := 2) ez50 (by first | omega | ((try (have i_hz3 := Imp.go hz3 (by omega))); omega)) (by decide) (by decide) (by decide)
            refine lv_istore_n (lv' := [(0, .int z50), (1, .int 15)]) hx hb dJ6_numberOfTrailingZeros_0f7a4_73 rfl hl (by decide) rfl (fun ls hl => ?_)
            refine lv_iload_n hx hb dJ6_numberOfTrailingZeros_0f7a4_74 rfl (lv_at hl 1 rfl) ?_
            refine lv_iload_n hx hb dJ6_numberOfTrailingZeros_0f7a4_75 rfl (lv_at hl 0 rfl) ?_
            refine lv_iconst (v := 1) hx hb dJ6_numberOfTrailingZeros_0f7a4_76 (by decide) ?_
            refine lv_iushr hx hb dJ6_numberOfTrailingZeros_0f7a4_77 rfl ?_
            refine lv_topi (fun z51 ez51 => ?_)
            have hz51 : z51.toInt = z50.toInt / 2 := ushr_l (P := 2) (k := 1) ez51 (by first | omega | ((try (have i_hz3 := Imp.go hz3 (by omega))); omega)) (by decide) (by decide) (by decide)
            refine lv_iadd hx hb dJ6_numberOfTrailingZeros_0f7a4_78 ?_
            refine lv_topi (fun z52 ez52 => ?_)
            have hz52 : z52.toInt = 15 + z51.toInt := i_add ez52 (by decide) rfl (by omega)
            exact W.iret (v := z52) hx hb hr (fun t ht hW => ⟨⟨z52, (), rfl, ⟨(show 0 ≤ z52.toInt ∧ z52.toInt ≤ 32 from by first | omega | ((try (have i_hz3 := Imp.go hz3 (by omega))); omega)), (fun m h0 hm => (show z52.toInt < (m : Int) from by
                have a := nty h0
                have a1 := a.2.1
                have a2 := a.2.2 m hm
                rcases (show z51.toInt = 0 ∨ z51.toInt = 1 ∨ z51.toInt = 2 from by omega) with hh | hh | hh
                · have q := ntz_k (P := 16384) (k := 14) (m := m) (by decide) (by omega) a2 a1
                  omega
                · have q := ntz_k (P := 32768) (k := 15) (m := m) (by decide) (by omega) a2 a1
                  omega
                · have q := ntz_k (P := 65536) (k := 16) (m := m) (by decide) (by omega) a2 a1
                  omega))⟩, by rw [ht]; exact hP, va_K.moved hW.alike hK, hD⟩, hS.F ht⟩) hS.2.2 dJ6_numberOfTrailingZeros_0f7a4_79
    · skip
      have f53 : 65536 < z4.toInt := b_nle rfl (by decide) c7
      refine lv_iinc (v := 17) (lv' := [(1, .int 17), (0, .int z4)]) hx hb dJ6_numberOfTrailingZeros_0f7a4_26 hl (k := 0) rfl (by decide) (by decide) rfl (fun ls hl => ?_)
      refine lv_iload_n hx hb dJ6_numberOfTrailingZeros_0f7a4_29 rfl (lv_at hl 1 rfl) ?_
      refine lv_bipush (v := 16) hx hb dJ6_numberOfTrailingZeros_0f7a4_30 (by decide) ?_
      refine lv_iushr hx hb dJ6_numberOfTrailingZeros_0f7a4_32 rfl ?_
      refine lv_topi (fun z54 ez54 => ?_)
      have hz54 : z54.toInt = z4.toInt / 65536 := ushr_l (P := 65536) (k := 16) ez54 (by first | omega | ((try (have i_hz3 := Imp.go hz3 (by omega))); omega)) (by decide) (by decide) (by decide)
      refine lv_istore_n (lv' := [(0, .int z54), (1, .int 17)]) hx hb dJ6_numberOfTrailingZeros_0f7a4_33 rfl hl (by decide) rfl (fun ls hl => ?_)
      refine lv_iload_n hx hb dJ6_numberOfTrailingZeros_0f7a4_34 rfl (lv_at hl 0 rfl) ?_
      refine lv_sipush (v := 256) hx hb dJ6_numberOfTrailingZeros_0f7a4_35 (by decide) ?_
      refine lv_icmp_le (tgt := 49) hx hb dJ6_numberOfTrailingZeros_0f7a4_38 (by decide) (fun c55 => ?_) (fun c55 => ?_)
      · skip
        have f56 : z54.toInt ≤ 256 := b_le rfl (by decide) c55
        refine lv_iload_n hx hb dJ6_numberOfTrailingZeros_0f7a4_49 rfl (lv_at hl 0 rfl) ?_
        refine lv_bipush (v := 16) hx hb dJ6_numberOfTrailingZeros_0f7a4_50 (by decide) ?_
        refine lv_icmp_le (tgt := 62) hx hb dJ6_numberOfTrailingZeros_0f7a4_52 (by decide) (fun c57 => ?_) (fun c57 => ?_)
        · skip
          have f58 : z54.toInt ≤ 16 := b_le rfl (by decide) c57
          refine lv_iload_n hx hb dJ6_numberOfTrailingZeros_0f7a4_62 rfl (lv_at hl 0 rfl) ?_
          refine lv_iconst (v := 4) hx hb dJ6_numberOfTrailingZeros_0f7a4_63 (by decide) ?_
          refine lv_icmp_le (tgt := 74) hx hb dJ6_numberOfTrailingZeros_0f7a4_64 (by decide) (fun c59 => ?_) (fun c59 => ?_)
          · skip
            have f60 : z54.toInt ≤ 4 := b_le rfl (by decide) c59
            refine lv_iload_n hx hb dJ6_numberOfTrailingZeros_0f7a4_74 rfl (lv_at hl 1 rfl) ?_
            refine lv_iload_n hx hb dJ6_numberOfTrailingZeros_0f7a4_75 rfl (lv_at hl 0 rfl) ?_
            refine lv_iconst (v := 1) hx hb dJ6_numberOfTrailingZeros_0f7a4_76 (by decide) ?_
            refine lv_iushr hx hb dJ6_numberOfTrailingZeros_0f7a4_77 rfl ?_
            refine lv_topi (fun z61 ez61 => ?_)
            have hz61 : z61.toInt = z54.toInt / 2 := ushr_l (P := 2) (k := 1) ez61 (by first | omega | ((try (have i_hz3 := Imp.go hz3 (by omega))); omega)) (by decide) (by decide) (by decide)
            refine lv_iadd hx hb dJ6_numberOfTrailingZeros_0f7a4_78 ?_
            refine lv_topi (fun z62 ez62 => ?_)
            have hz62 : z62.toInt = 17 + z61.toInt := i_add ez62 (by decide) rfl (by omega)
            exact W.iret (v := z62) hx hb hr (fun t ht hW => ⟨⟨z62, (), rfl, ⟨(show 0 ≤ z62.toInt ∧ z62.toInt ≤ 32 from by first | omega | ((try (have i_hz3 := Imp.go hz3 (by omega))); omega)), (fun m h0 hm => (show z62.toInt < (m : Int) from by
                have a := nty h0
                have a1 := a.2.1
                have a2 := a.2.2 m hm
                rcases (show z61.toInt = 0 ∨ z61.toInt = 1 ∨ z61.toInt = 2 from by omega) with hh | hh | hh
                · have q := ntz_k (P := 65536) (k := 16) (m := m) (by decide) (by omega) a2 a1
                  omega
                · have q := ntz_k (P := 131072) (k := 17) (m := m) (by decide) (by omega) a2 a1
                  omega
                · have q := ntz_k (P := 262144) (k := 18) (m := m) (by decide) (by omega) a2 a1
                  omega))⟩, by rw [ht]; exact hP, va_K.moved hW.alike hK, hD⟩, hS.F ht⟩) hS.2.2 dJ6_numberOfTrailingZeros_0f7a4_79
          · skip
            have f63 : 4 < z54.toInt := b_nle rfl (by decide) c59
            refine lv_iinc (v := 19) (lv' := [(1, .int 19), (0, .int z54)]) hx hb dJ6_numberOfTrailingZeros_0f7a4_67 hl (k := 1) rfl (by decide) (by decide) rfl (fun ls hl => ?_)
            refine lv_iload_n hx hb dJ6_numberOfTrailingZeros_0f7a4_70 rfl (lv_at hl 1 rfl) ?_
            refine lv_iconst (v := 2) hx hb dJ6_numberOfTrailingZeros_0f7a4_71 (by decide) ?_
            refine lv_iushr hx hb dJ6_numberOfTrailingZeros_0f7a4_72 rfl ?_
            refine lv_topi (fun z64 ez64 => ?_)
            have hz64 : z64.toInt = z54.toInt / 4 := ushr_l (P := 4) (k := 2) ez64 (by first | omega | ((try (have i_hz3 := Imp.go hz3 (by omega))); omega)) (by decide) (by decide) (by decide)
            refine lv_istore_n (lv' := [(0, .int z64), (1, .int 19)]) hx hb dJ6_numberOfTrailingZeros_0f7a4_73 rfl hl (by decide) rfl (fun ls hl => ?_)
            refine lv_iload_n hx hb dJ6_numberOfTrailingZeros_0f7a4_74 rfl (lv_at hl 1 rfl) ?_
            refine lv_iload_n hx hb dJ6_numberOfTrailingZeros_0f7a4_75 rfl (lv_at hl 0 rfl) ?_
            refine lv_iconst (v := 1) hx hb dJ6_numberOfTrailingZeros_0f7a4_76 (by decide) ?_
            refine lv_iushr hx hb dJ6_numberOfTrailingZeros_0f7a4_77 rfl ?_
            refine lv_topi (fun z65 ez65 => ?_)
            have hz65 : z65.toInt = z64.toInt / 2 := ushr_l (P := 2) (k := 1) ez65 (by first | omega | ((try (have i_hz3 := Imp.go hz3 (by omega))); omega)) (by decide) (by decide) (by decide)
            refine lv_iadd hx hb dJ6_numberOfTrailingZeros_0f7a4_78 ?_
            refine lv_topi (fun z66 ez66 => ?_)
            have hz66 : z66.toInt = 19 + z65.toInt := i_add ez66 (by decide) rfl (by omega)
            exact W.iret (v := z66) hx hb hr (fun t ht hW => ⟨⟨z66, (), rfl, ⟨(show 0 ≤ z66.toInt ∧ z66.toInt ≤ 32 from by first | omega | ((try (have i_hz3 := Imp.go hz3 (by omega))); omega)), (fun m h0 hm => (show z66.toInt < (m : Int) from by
                have a := nty h0
                have a1 := a.2.1
                have a2 := a.2.2 m hm
                rcases (show z65.toInt = 0 ∨ z65.toInt = 1 ∨ z65.toInt = 2 from by omega) with hh | hh | hh
                · have q := ntz_k (P := 262144) (k := 18) (m := m) (by decide) (by omega) a2 a1
                  omega
                · have q := ntz_k (P := 524288) (k := 19) (m := m) (by decide) (by omega) a2 a1
                  omega
                · have q := ntz_k (P := 1048576) (k := 20) (m := m) (by decide) (by omega) a2 a1
                  omega))⟩, by rw [ht]; exact hP, va_K.moved hW.alike hK, hD⟩, hS.F ht⟩) hS.2.2 dJ6_numberOfTrailingZeros_0f7a4_79
        · skip
          have f67 : 16 < z54.toInt := b_nle rfl (by decide) c57
          refine lv_iinc (v := 21) (lv' := [(1, .int 21), (0, .int z54)]) hx hb dJ6_numberOfTrailingZeros_0f7a4_55 hl (k := 1) rfl (by decide) (by decide) rfl (fun ls hl => ?_)
          refine lv_iload_n hx hb dJ6_numberOfTrailingZeros_0f7a4_58 rfl (lv_at hl 1 rfl) ?_
          refine lv_iconst (v := 4) hx hb dJ6_numberOfTrailingZeros_0f7a4_59 (by decide) ?_
          refine lv_iushr hx hb dJ6_numberOfTrailingZeros_0f7a4_60 rfl ?_
          refine lv_topi (fun z68 ez68 => ?_)
          have hz68 : z68.toInt = z54.toInt / 16 := ushr_l (P := 16) (k := 4) ez68 (by first | omega | ((try (have i_hz3 := Imp.go hz3 (by omega))); omega)) (by decide) (by decide) (by decide)
          refine lv_istore_n (lv' := [(0, .int z68), (1, .int 21)]) hx hb dJ6_numberOfTrailingZeros_0f7a4_61 rfl hl (by decide) rfl (fun ls hl => ?_)
          refine lv_iload_n hx hb dJ6_numberOfTrailingZeros_0f7a4_62 rfl (lv_at hl 0 rfl) ?_
          refine lv_iconst (v := 4) hx hb dJ6_numberOfTrailingZeros_0f7a4_63 (by decide) ?_
          refine lv_icmp_le (tgt := 74) hx hb dJ6_numberOfTrailingZeros_0f7a4_64 (by decide) (fun c69 => ?_) (fun c69 => ?_)
          · skip
            have f70 : z68.toInt ≤ 4 := b_le rfl (by decide) c69
            refine lv_iload_n hx hb dJ6_numberOfTrailingZeros_0f7a4_74 rfl (lv_at hl 1 rfl) ?_
            refine lv_iload_n hx hb dJ6_numberOfTrailingZeros_0f7a4_75 rfl (lv_at hl 0 rfl) ?_
            refine lv_iconst (v := 1) hx hb dJ6_numberOfTrailingZeros_0f7a4_76 (by decide) ?_
            refine lv_iushr hx hb dJ6_numberOfTrailingZeros_0f7a4_77 rfl ?_
            refine lv_topi (fun z71 ez71 => ?_)
            have hz71 : z71.toInt = z68.toInt / 2 := ushr_l (P := 2) (k := 1) ez71 (by first | omega | ((try (have i_hz3 := Imp.go hz3 (by omega))); omega)) (by decide) (by decide) (by decide)
            refine lv_iadd hx hb dJ6_numberOfTrailingZeros_0f7a4_78 ?_
            refine lv_topi (fun z72 ez72 => ?_)
            have hz72 : z72.toInt = 21 + z71.toInt := i_add ez72 (by decide) rfl (by omega)
            exact W.iret (v := z72) hx hb hr (fun t ht hW => ⟨⟨z72, (), rfl, ⟨(show 0 ≤ z72.toInt ∧ z72.toInt ≤ 32 from by first | omega | ((try (have i_hz3 := Imp.go hz3 (by omega))); omega)), (fun m h0 hm => (show z72.toInt < (m : Int) from by
                have a := nty h0
                have a1 := a.2.1
                have a2 := a.2.2 m hm
                rcases (show z71.toInt = 0 ∨ z71.toInt = 1 ∨ z71.toInt = 2 from by omega) with hh | hh | hh
                · have q := ntz_k (P := 1048576) (k := 20) (m := m) (by decide) (by omega) a2 a1
                  omega
                · have q := ntz_k (P := 2097152) (k := 21) (m := m) (by decide) (by omega) a2 a1
                  omega
                · have q := ntz_k (P := 4194304) (k := 22) (m := m) (by decide) (by omega) a2 a1
                  omega))⟩, by rw [ht]; exact hP, va_K.moved hW.alike hK, hD⟩, hS.F ht⟩) hS.2.2 dJ6_numberOfTrailingZeros_0f7a4_79
          · skip
            have f73 : 4 < z68.toInt := b_nle rfl (by decide) c69
            refine lv_iinc (v := 23) (lv' := [(1, .int 23), (0, .int z68)]) hx hb dJ6_numberOfTrailingZeros_0f7a4_67 hl (k := 1) rfl (by decide) (by decide) rfl (fun ls hl => ?_)
            refine lv_iload_n hx hb dJ6_numberOfTrailingZeros_0f7a4_70 rfl (lv_at hl 1 rfl) ?_
            refine lv_iconst (v := 2) hx hb dJ6_numberOfTrailingZeros_0f7a4_71 (by decide) ?_
            refine lv_iushr hx hb dJ6_numberOfTrailingZeros_0f7a4_72 rfl ?_
            refine lv_topi (fun z74 ez74 => ?_)
            have hz74 : z74.toInt = z68.toInt / 4 := ushr_l (P := 4) (k := 2) ez74 (by first | omega | ((try (have i_hz3 := Imp.go hz3 (by omega))); omega)) (by decide) (by decide) (by decide)
            refine lv_istore_n (lv' := [(0, .int z74), (1, .int 23)]) hx hb dJ6_numberOfTrailingZeros_0f7a4_73 rfl hl (by decide) rfl (fun ls hl => ?_)
            refine lv_iload_n hx hb dJ6_numberOfTrailingZeros_0f7a4_74 rfl (lv_at hl 1 rfl) ?_
            refine lv_iload_n hx hb dJ6_numberOfTrailingZeros_0f7a4_75 rfl (lv_at hl 0 rfl) ?_
            refine lv_iconst (v := 1) hx hb dJ6_numberOfTrailingZeros_0f7a4_76 (by decide) ?_
            refine lv_iushr hx hb dJ6_numberOfTrailingZeros_0f7a4_77 rfl ?_
            refine lv_topi (fun z75 ez75 => ?_)
            have hz75 : z75.toInt = z74.toInt / 2 := ushr_l (P := 2) (k := 1) ez75 (by first | omega | ((try (have i_hz3 := Imp.go hz3 (by omega))); omega)) (by decide) (by decide) (by decide)
            refine lv_iadd hx hb dJ6_numberOfTrailingZeros_0f7a4_78 ?_
            refine lv_topi (fun z76 ez76 => ?_)
            have hz76 : z76.toInt = 23 + z75.toInt := i_add ez76 (by decide) rfl (by omega)
            exact W.iret (v := z76) hx hb hr (fun t ht hW => ⟨⟨z76, (), rfl, ⟨(show 0 ≤ z76.toInt ∧ z76.toInt ≤ 32 from by first | omega | ((try (have i_hz3 := Imp.go hz3 (by omega))); omega)), (fun m h0 hm => (show z76.toInt < (m : Int) from by
                have a := nty h0
                have a1 := a.2.1
                have a2 := a.2.2 m hm
                rcases (show z75.toInt = 0 ∨ z75.toInt = 1 ∨ z75.toInt = 2 from by omega) with hh | hh | hh
                · have q := ntz_k (P := 4194304) (k := 22) (m := m) (by decide) (by omega) a2 a1
                  omega
                · have q := ntz_k (P := 8388608) (k := 23) (m := m) (by decide) (by omega) a2 a1
                  omega
                · have q := ntz_k (P := 16777216) (k := 24) (m := m) (by decide) (by omega) a2 a1
                  omega))⟩, by rw [ht]; exact hP, va_K.moved hW.alike hK, hD⟩, hS.F ht⟩) hS.2.2 dJ6_numberOfTrailingZeros_0f7a4_79
      · skip
        have f77 : 256 < z54.toInt := b_nle rfl (by decide) c55
        refine lv_iinc (v := 25) (lv' := [(1, .int 25), (0, .int z54)]) hx hb dJ6_numberOfTrailingZeros_0f7a4_41 hl (k := 1) rfl (by decide) (by decide) rfl (fun ls hl => ?_)
        refine lv_iload_n hx hb dJ6_numberOfTrailingZeros_0f7a4_44 rfl (lv_at hl 1 rfl) ?_
        refine lv_bipush (v := 8) hx hb dJ6_numberOfTrailingZeros_0f7a4_45 (by decide) ?_
        refine lv_iushr hx hb dJ6_numberOfTrailingZeros_0f7a4_47 rfl ?_
        refine lv_topi (fun z78 ez78 => ?_)
        have hz78 : z78.toInt = z54.toInt / 256 := ushr_l (P := 256) (k := 8) ez78 (by first | omega | ((try (have i_hz3 := Imp.go hz3 (by omega))); omega)) (by decide) (by decide) (by decide)
        refine lv_istore_n (lv' := [(0, .int z78), (1, .int 25)]) hx hb dJ6_numberOfTrailingZeros_0f7a4_48 rfl hl (by decide) rfl (fun ls hl => ?_)
        refine lv_iload_n hx hb dJ6_numberOfTrailingZeros_0f7a4_49 rfl (lv_at hl 0 rfl) ?_
        refine lv_bipush (v := 16) hx hb dJ6_numberOfTrailingZeros_0f7a4_50 (by decide) ?_
        refine lv_icmp_le (tgt := 62) hx hb dJ6_numberOfTrailingZeros_0f7a4_52 (by decide) (fun c79 => ?_) (fun c79 => ?_)
        · skip
          have f80 : z78.toInt ≤ 16 := b_le rfl (by decide) c79
          refine lv_iload_n hx hb dJ6_numberOfTrailingZeros_0f7a4_62 rfl (lv_at hl 0 rfl) ?_
          refine lv_iconst (v := 4) hx hb dJ6_numberOfTrailingZeros_0f7a4_63 (by decide) ?_
          refine lv_icmp_le (tgt := 74) hx hb dJ6_numberOfTrailingZeros_0f7a4_64 (by decide) (fun c81 => ?_) (fun c81 => ?_)
          · skip
            have f82 : z78.toInt ≤ 4 := b_le rfl (by decide) c81
            refine lv_iload_n hx hb dJ6_numberOfTrailingZeros_0f7a4_74 rfl (lv_at hl 1 rfl) ?_
            refine lv_iload_n hx hb dJ6_numberOfTrailingZeros_0f7a4_75 rfl (lv_at hl 0 rfl) ?_
            refine lv_iconst (v := 1) hx hb dJ6_numberOfTrailingZeros_0f7a4_76 (by decide) ?_
            refine lv_iushr hx hb dJ6_numberOfTrailingZeros_0f7a4_77 rfl ?_
            refine lv_topi (fun z83 ez83 => ?_)
            have hz83 : z83.toInt = z78.toInt / 2 := ushr_l (P := 2) (k := 1) ez83 (by first | omega | ((try (have i_hz3 := Imp.go hz3 (by omega))); omega)) (by decide) (by decide) (by decide)
            refine lv_iadd hx hb dJ6_numberOfTrailingZeros_0f7a4_78 ?_
            refine lv_topi (fun z84 ez84 => ?_)
            have hz84 : z84.toInt = 25 + z83.toInt := i_add ez84 (by decide) rfl (by omega)
            exact W.iret (v := z84) hx hb hr (fun t ht hW => ⟨⟨z84, (), rfl, ⟨(show 0 ≤ z84.toInt ∧ z84.toInt ≤ 32 from by first | omega | ((try (have i_hz3 := Imp.go hz3 (by omega))); omega)), (fun m h0 hm => (show z84.toInt < (m : Int) from by
                have a := nty h0
                have a1 := a.2.1
                have a2 := a.2.2 m hm
                rcases (show z83.toInt = 0 ∨ z83.toInt = 1 ∨ z83.toInt = 2 from by omega) with hh | hh | hh
                · have q := ntz_k (P := 16777216) (k := 24) (m := m) (by decide) (by omega) a2 a1
                  omega
                · have q := ntz_k (P := 33554432) (k := 25) (m := m) (by decide) (by omega) a2 a1
                  omega
                · have q := ntz_k (P := 67108864) (k := 26) (m := m) (by decide) (by omega) a2 a1
                  omega))⟩, by rw [ht]; exact hP, va_K.moved hW.alike hK, hD⟩, hS.F ht⟩) hS.2.2 dJ6_numberOfTrailingZeros_0f7a4_79
          · skip
            have f85 : 4 < z78.toInt := b_nle rfl (by decide) c81
            refine lv_iinc (v := 27) (lv' := [(1, .int 27), (0, .int z78)]) hx hb dJ6_numberOfTrailingZeros_0f7a4_67 hl (k := 1) rfl (by decide) (by decide) rfl (fun ls hl => ?_)
            refine lv_iload_n hx hb dJ6_numberOfTrailingZeros_0f7a4_70 rfl (lv_at hl 1 rfl) ?_
            refine lv_iconst (v := 2) hx hb dJ6_numberOfTrailingZeros_0f7a4_71 (by decide) ?_
            refine lv_iushr hx hb dJ6_numberOfTrailingZeros_0f7a4_72 rfl ?_
            refine lv_topi (fun z86 ez86 => ?_)
            have hz86 : z86.toInt = z78.toInt / 4 := ushr_l (P := 4) (k := 2) ez86 (by first | omega | ((try (have i_hz3 := Imp.go hz3 (by omega))); omega)) (by decide) (by decide) (by decide)
            refine lv_istore_n (lv' := [(0, .int z86), (1, .int 27)]) hx hb dJ6_numberOfTrailingZeros_0f7a4_73 rfl hl (by decide) rfl (fun ls hl => ?_)
            refine lv_iload_n hx hb dJ6_numberOfTrailingZeros_0f7a4_74 rfl (lv_at hl 1 rfl) ?_
            refine lv_iload_n hx hb dJ6_numberOfTrailingZeros_0f7a4_75 rfl (lv_at hl 0 rfl) ?_
            refine lv_iconst (v := 1) hx hb dJ6_numberOfTrailingZeros_0f7a4_76 (by decide) ?_
            refine lv_iushr hx hb dJ6_numberOfTrailingZeros_0f7a4_77 rfl ?_
            refine lv_topi (fun z87 ez87 => ?_)
            have hz87 : z87.toInt = z86.toInt / 2 := ushr_l (P := 2) (k := 1) ez87 (by first | omega | ((try (have i_hz3 := Imp.go hz3 (by omega))); omega)) (by decide) (by decide) (by decide)
            refine lv_iadd hx hb dJ6_numberOfTrailingZeros_0f7a4_78 ?_
            refine lv_topi (fun z88 ez88 => ?_)
            have hz88 : z88.toInt = 27 + z87.toInt := i_add ez88 (by decide) rfl (by omega)
            exact W.iret (v := z88) hx hb hr (fun t ht hW => ⟨⟨z88, (), rfl, ⟨(show 0 ≤ z88.toInt ∧ z88.toInt ≤ 32 from by first | omega | ((try (have i_hz3 := Imp.go hz3 (by omega))); omega)), (fun m h0 hm => (show z88.toInt < (m : Int) from by
                have a := nty h0
                have a1 := a.2.1
                have a2 := a.2.2 m hm
                rcases (show z87.toInt = 0 ∨ z87.toInt = 1 ∨ z87.toInt = 2 from by omega) with hh | hh | hh
                · have q := ntz_k (P := 67108864) (k := 26) (m := m) (by decide) (by omega) a2 a1
                  omega
                · have q := ntz_k (P := 134217728) (k := 27) (m := m) (by decide) (by omega) a2 a1
                  omega
                · have q := ntz_k (P := 268435456) (k := 28) (m := m) (by decide) (by omega) a2 a1
                  omega))⟩, by rw [ht]; exact hP, va_K.moved hW.alike hK, hD⟩, hS.F ht⟩) hS.2.2 dJ6_numberOfTrailingZeros_0f7a4_79
        · skip
          have f89 : 16 < z78.toInt := b_nle rfl (by decide) c79
          refine lv_iinc (v := 29) (lv' := [(1, .int 29), (0, .int z78)]) hx hb dJ6_numberOfTrailingZeros_0f7a4_55 hl (k := 1) rfl (by decide) (by decide) rfl (fun ls hl => ?_)
          refine lv_iload_n hx hb dJ6_numberOfTrailingZeros_0f7a4_58 rfl (lv_at hl 1 rfl) ?_
          refine lv_iconst (v := 4) hx hb dJ6_numberOfTrailingZeros_0f7a4_59 (by decide) ?_
          refine lv_iushr hx hb dJ6_numberOfTrailingZeros_0f7a4_60 rfl ?_
          refine lv_topi (fun z90 ez90 => ?_)
          have hz90 : z90.toInt = z78.toInt / 16 := ushr_l (P := 16) (k := 4) ez90 (by first | omega | ((try (have i_hz3 := Imp.go hz3 (by omega))); omega)) (by decide) (by decide) (by decide)
          refine lv_istore_n (lv' := [(0, .int z90), (1, .int 29)]) hx hb dJ6_numberOfTrailingZeros_0f7a4_61 rfl hl (by decide) rfl (fun ls hl => ?_)
          refine lv_iload_n hx hb dJ6_numberOfTrailingZeros_0f7a4_62 rfl (lv_at hl 0 rfl) ?_
          refine lv_iconst (v := 4) hx hb dJ6_numberOfTrailingZeros_0f7a4_63 (by decide) ?_
          refine lv_icmp_le (tgt := 74) hx hb dJ6_numberOfTrailingZeros_0f7a4_64 (by decide) (fun c91 => ?_) (fun c91 => ?_)
          · skip
            have f92 : z90.toInt ≤ 4 := b_le rfl (by decide) c91
            refine lv_iload_n hx hb dJ6_numberOfTrailingZeros_0f7a4_74 rfl (lv_at hl 1 rfl) ?_
            refine lv_iload_n hx hb dJ6_numberOfTrailingZeros_0f7a4_75 rfl (lv_at hl 0 rfl) ?_
            refine lv_iconst (v := 1) hx hb dJ6_numberOfTrailingZeros_0f7a4_76 (by decide) ?_
            refine lv_iushr hx hb dJ6_numberOfTrailingZeros_0f7a4_77 rfl ?_
            refine lv_topi (fun z93 ez93 => ?_)
            have hz93 : z93.toInt = z90.toInt / 2 := ushr_l (P := 2) (k := 1) ez93 (by first | omega | ((try (have i_hz3 := Imp.go hz3 (by omega))); omega)) (by decide) (by decide) (by decide)
            refine lv_iadd hx hb dJ6_numberOfTrailingZeros_0f7a4_78 ?_
            refine lv_topi (fun z94 ez94 => ?_)
            have hz94 : z94.toInt = 29 + z93.toInt := i_add ez94 (by decide) rfl (by omega)
            exact W.iret (v := z94) hx hb hr (fun t ht hW => ⟨⟨z94, (), rfl, ⟨(show 0 ≤ z94.toInt ∧ z94.toInt ≤ 32 from by first | omega | ((try (have i_hz3 := Imp.go hz3 (by omega))); omega)), (fun m h0 hm => (show z94.toInt < (m : Int) from by
                have a := nty h0
                have a1 := a.2.1
                have a2 := a.2.2 m hm
                rcases (show z93.toInt = 0 ∨ z93.toInt = 1 ∨ z93.toInt = 2 from by omega) with hh | hh | hh
                · have q := ntz_k (P := 268435456) (k := 28) (m := m) (by decide) (by omega) a2 a1
                  omega
                · have q := ntz_k (P := 536870912) (k := 29) (m := m) (by decide) (by omega) a2 a1
                  omega
                · have q := ntz_k (P := 1073741824) (k := 30) (m := m) (by decide) (by omega) a2 a1
                  omega))⟩, by rw [ht]; exact hP, va_K.moved hW.alike hK, hD⟩, hS.F ht⟩) hS.2.2 dJ6_numberOfTrailingZeros_0f7a4_79
          · skip
            have f95 : 4 < z90.toInt := b_nle rfl (by decide) c91
            refine lv_iinc (v := 31) (lv' := [(1, .int 31), (0, .int z90)]) hx hb dJ6_numberOfTrailingZeros_0f7a4_67 hl (k := 1) rfl (by decide) (by decide) rfl (fun ls hl => ?_)
            refine lv_iload_n hx hb dJ6_numberOfTrailingZeros_0f7a4_70 rfl (lv_at hl 1 rfl) ?_
            refine lv_iconst (v := 2) hx hb dJ6_numberOfTrailingZeros_0f7a4_71 (by decide) ?_
            refine lv_iushr hx hb dJ6_numberOfTrailingZeros_0f7a4_72 rfl ?_
            refine lv_topi (fun z96 ez96 => ?_)
            have hz96 : z96.toInt = z90.toInt / 4 := ushr_l (P := 4) (k := 2) ez96 (by first | omega | ((try (have i_hz3 := Imp.go hz3 (by omega))); omega)) (by decide) (by decide) (by decide)
            refine lv_istore_n (lv' := [(0, .int z96), (1, .int 31)]) hx hb dJ6_numberOfTrailingZeros_0f7a4_73 rfl hl (by decide) rfl (fun ls hl => ?_)
            refine lv_iload_n hx hb dJ6_numberOfTrailingZeros_0f7a4_74 rfl (lv_at hl 1 rfl) ?_
            refine lv_iload_n hx hb dJ6_numberOfTrailingZeros_0f7a4_75 rfl (lv_at hl 0 rfl) ?_
            refine lv_iconst (v := 1) hx hb dJ6_numberOfTrailingZeros_0f7a4_76 (by decide) ?_
            refine lv_iushr hx hb dJ6_numberOfTrailingZeros_0f7a4_77 rfl ?_
            refine lv_topi (fun z97 ez97 => ?_)
            have hz97 : z97.toInt = z96.toInt / 2 := ushr_l (P := 2) (k := 1) ez97 (by first | omega | ((try (have i_hz3 := Imp.go hz3 (by omega))); omega)) (by decide) (by decide) (by decide)
            refine lv_iadd hx hb dJ6_numberOfTrailingZeros_0f7a4_78 ?_
            refine lv_topi (fun z98 ez98 => ?_)
            have hz98 : z98.toInt = 31 + z97.toInt := i_add ez98 (by decide) rfl (by omega)
            exact W.iret (v := z98) hx hb hr (fun t ht hW => ⟨⟨z98, (), rfl, ⟨(show 0 ≤ z98.toInt ∧ z98.toInt ≤ 32 from by first | omega | ((try (have i_hz3 := Imp.go hz3 (by omega))); omega)), (fun m h0 hm => (show z98.toInt < (m : Int) from by
                have a := nty h0
                have a1 := a.2.1
                have a2 := a.2.2 m hm
                rcases (show z97.toInt = 0 ∨ z97.toInt = 1 ∨ z97.toInt = 2 from by omega) with hh | hh | hh
                · have q := ntz_k (P := 1073741824) (k := 30) (m := m) (by decide) (by omega) a2 a1
                  omega
                · have q := ntz_k (P := 2147483648) (k := 31) (m := m) (by decide) (by omega) a2 a1
                  omega
                · have q := ntz_k (P := 4294967296) (k := 32) (m := m) (by decide) (by omega) a2 a1
                  omega))⟩, by rw [ht]; exact hP, va_K.moved hW.alike hK, hD⟩, hS.F ht⟩) hS.2.2 dJ6_numberOfTrailingZeros_0f7a4_79
  · skip
    have f99 : z4.toInt ≤ 0 := b_nlt (by decide) rfl c5
    refine lv_iload_n hx hb dJ6_numberOfTrailingZeros_0f7a4_12 rfl (lv_at hl 0 rfl) ?_
    refine lv_bipush (v := 32) hx hb dJ6_numberOfTrailingZeros_0f7a4_13 (by decide) ?_
    refine lv_iand hx hb dJ6_numberOfTrailingZeros_0f7a4_15 ?_
    refine lv_topi (fun z100 ez100 => ?_)
    have hq1 : 0 ≤ z100.toInt ∧ z100.toInt ≤ 32 := and_m ez100 (by decide)
    have hq2 : 0 ≤ z4.toInt → 0 ≤ z100.toInt ∧ z100.toInt ≤ z4.toInt := fun h => and_left ez100 h
    exact W.iret (v := z100) hx hb hr (fun t ht hW => ⟨⟨z100, (), rfl, ⟨(show 0 ≤ z100.toInt ∧ z100.toInt ≤ 32 from by first | exact om_83f5e4ef2f8c f99 hq1.1 hq2.2 | first | omega | ((try (have i_hz3 := Imp.go hz3 (by omega))); omega)), (fun m h0 hm => (show z100.toInt < (m : Int) from by have a := nty h0; have a1 := a.1; have b := hq2 a1; have c := ntz_0 h0 hm; omega))⟩, by rw [ht]; exact hP, va_K.moved hW.alike hK, hD⟩, hS.F ht⟩) hS.2.2 dJ6_numberOfTrailingZeros_0f7a4_16
abbrev r_x_candidates2 : Room := { frames := 1, cells := 0, slots := 0, locals := 22 }
abbrev q_x_candidates2 (D : va_G) (ks : KS) (ad : Nat → Nat) (kk : Nat → ClassId) (V : Vf) (L : Lf) (Z : XZ) (p0 : Int32) (p1 : Int32) (b : Nat) (A : Nat → Prop) : Array Value → State → Outcome → State → Prop := va_Qi (fun (r : Int32) (_ : Unit) => (0 ≤ r.toInt ∧ r.toInt ≤ 16777215)) (fun _ t => gq D A (xw ad kk V L Z) (xty kk Z) t) A
set_option maxHeartbeats 4000000 in
set_option maxRecDepth 100000 in
theorem x_candidates2 (l : Launch) (D : va_G) (ks : KS) (sz : Nat) (ad : Nat → Nat) (kk : Nat → ClassId) (V : Vf) (L : Lf) (Z : XZ) (p0 : Int32) (p1 : Int32) (b : Nat) (hMV : rgd bX V) (rg_p0 : 0 ≤ p0.toInt ∧ p0.toInt ≤ 23) (rg_p1 : 0 ≤ p1.toInt ∧ p1.toInt ≤ 7) (hb2 : b < 2)  : Met l yX0_candidates (Cond.code yX0_candidates cX0_candidates 12 (some .int) :: GW) r_x_candidates2 (va_Pc [.ref (ad (38 + b)), .int p0, .int p1] (gp D ks (xw ad kk V L Z) (xty kk Z) sz)) (q_x_candidates2 D ks ad kk V L Z p0 p1 b (va_A (xw ad kk V L Z) sz)) 0 0 (va_A (xw ad kk V L Z) sz) := by
  refine g_met (q_x_candidates2 D ks ad kk V L Z p0 p1 b) (by decide) (Nat.le_of_ble_eq_true rfl) ?_
  intro p e s m below meth c A ls H locs hx hb hr hml hown hg hlocks hin hnw hgk hP hK hD hS hA hl
  have hown : s.vm.findClass RX0 = some m.cls := hown
  have hl : lv_has ls 12 [(0, .ref (ad (38 + b))), (1, .int p0), (2, .int p1)] := hl
  have hP : va_P D vwCl (xw ad kk V L Z) H := hP
  have hD : va_D A (xw ad kk V L Z) := hD
  have hK : va_K D vwCl (xty kk Z) s := hK
  refine lv_aload_n hx hb dX0_candidates_0 rfl (lv_at hl 0 rfl) ?_
  refine va_get (D := D) (ci := 0) (v := .ref (ad (64 + b))) (fs := (xfBook ad V b)) (C := RX0) (T := TX0) (N := 13) hx hb hg inX0 hown hK hP (38 + b) (xgBook hb2) rfl 7 (by decide) (hg _ w614) (fun _ h9 => h9) rfl dX0_candidates_1 ?_
  refine lv_iload_n hx hb dX0_candidates_4 rfl (lv_at hl 1 rfl) ?_
  have il1 : b < 2 := by (first | exact om_f940a4667dd6 hb2 | omega)
  refine va_aldq (D := D) (i := p0) hx hb hK hP (64 + b) (57 + b) (xgcomps il1) (xtcomps il1) (i_in (a := p0.toInt) rfl (by omega)) dX0_candidates_5 ?_
  have kc2 := i_clamp (x := p0) rfl (by (first | exact om_eafa9039069c rg_p0.1 | omega))
  refine g_topv (v := .ref (ad (72 + (24 * b + (Int32.toNatClampNeg p0))))) (congrArg va_rf (if_pos (by omega))) ?_
  have il3 : (24 * b + (Int32.toNatClampNeg p0)) < 48 := by (first | exact om_22346e364ab0 rg_p0.2 hb2 kc2 | omega)
  refine lv_astore_n (lv' := [(3, .ref (ad (72 + (24 * b + (Int32.toNatClampNeg p0))))), (0, .ref (ad (38 + b))), (1, .int p0), (2, .int p1)]) hx hb dX0_candidates_6 rfl hl (by decide) rfl (fun ls hl => ?_)
  refine lv_aload_n hx hb dX0_candidates_7 rfl (lv_at hl 0 rfl) ?_
  refine va_getN (D := D) (ci := 3) (v := .ref (ad (216 + (24 * b + (Int32.toNatClampNeg p0))))) (fs := (xfComp ad V (24 * b + (Int32.toNatClampNeg p0)))) (C := RX3) (T := TX3) (N := 13) hx hb hg inX3 hown hK hP (72 + (24 * b + (Int32.toNatClampNeg p0))) (xgComp il3) rfl 2 (by decide) (hnw.use 505 n505 rfl) (fun _ h9 => h9) rfl dX0_candidates_8 ?_
  refine lv_iload_n hx hb dX0_candidates_11 rfl (lv_at hl 3 rfl) ?_
  have il4 : (24 * b + (Int32.toNatClampNeg p0)) < 48 := by (first | exact om_22346e364ab0 rg_p0.2 hb2 kc2 | omega)
  refine va_iald (D := D) (i := p1) hx hb hK hP (216 + (24 * b + (Int32.toNatClampNeg p0))) (209 + (24 * b + (Int32.toNatClampNeg p0))) (xgneedKinds il4) (xtneedKinds il4) (i_in (a := p1.toInt) rfl (by omega)) dX0_candidates_12 ?_
  have kc5 := i_clamp (x := p1) rfl (by (first | exact om_eafa9039069c rg_p1.1 | omega))
  refine g_top (v := V 60 (8 * (24 * b + (Int32.toNatClampNeg p0)) + (Int32.toNatClampNeg p1))) (if_pos (by omega)) ?_
  refine lv_istore (lv' := [(4, .int (V 60 (8 * (24 * b + (Int32.toNatClampNeg p0)) + (Int32.toNatClampNeg p1)))), (3, .ref (ad (72 + (24 * b + (Int32.toNatClampNeg p0))))), (0, .ref (ad (38 + b))), (1, .int p0), (2, .int p1)]) hx hb dX0_candidates_13 hl (by decide) rfl (fun ls hl => ?_)
  refine lv_aload_n hx hb dX0_candidates_15 rfl (lv_at hl 1 rfl) ?_
  refine va_getN (D := D) (ci := 3) (v := .ref (ad (120 + (24 * b + (Int32.toNatClampNeg p0))))) (fs := (xfComp ad V (24 * b + (Int32.toNatClampNeg p0)))) (C := RX3) (T := TX3) (N := 13) hx hb hg inX3 hown hK hP (72 + (24 * b + (Int32.toNatClampNeg p0))) (xgComp il3) rfl 0 (by decide) (hnw.use 500 n500 rfl) (fun _ h9 => h9) rfl dX0_candidates_16 ?_
  refine lv_iload_n hx hb dX0_candidates_19 rfl (lv_at hl 4 rfl) ?_
  have il6 : (24 * b + (Int32.toNatClampNeg p0)) < 48 := by (first | exact om_22346e364ab0 rg_p0.2 hb2 kc2 | omega)
  refine va_iald (D := D) (i := p1) hx hb hK hP (120 + (24 * b + (Int32.toNatClampNeg p0))) (113 + (24 * b + (Int32.toNatClampNeg p0))) (xgneedTypes il6) (xtneedTypes il6) (i_in (a := p1.toInt) rfl (by omega)) dX0_candidates_20 ?_
  refine g_top (v := V 58 (8 * (24 * b + (Int32.toNatClampNeg p0)) + (Int32.toNatClampNeg p1))) (if_pos (by omega)) ?_
  refine lv_istore (lv' := [(5, .int (V 58 (8 * (24 * b + (Int32.toNatClampNeg p0)) + (Int32.toNatClampNeg p1)))), (4, .int (V 60 (8 * (24 * b + (Int32.toNatClampNeg p0)) + (Int32.toNatClampNeg p1)))), (3, .ref (ad (72 + (24 * b + (Int32.toNatClampNeg p0))))), (0, .ref (ad (38 + b))), (1, .int p0), (2, .int p1)]) hx hb dX0_candidates_21 hl (by decide) rfl (fun ls hl => ?_)
  refine lv_aload_n hx hb dX0_candidates_23 rfl (lv_at hl 2 rfl) ?_
  refine va_getN (D := D) (ci := 3) (v := .ref (ad (168 + (24 * b + (Int32.toNatClampNeg p0))))) (fs := (xfComp ad V (24 * b + (Int32.toNatClampNeg p0)))) (C := RX3) (T := TX3) (N := 13) hx hb hg inX3 hown hK hP (72 + (24 * b + (Int32.toNatClampNeg p0))) (xgComp il3) rfl 1 (by decide) (hnw.use 502 n502 rfl) (fun _ h9 => h9) rfl dX0_candidates_24 ?_
  refine lv_iload_n hx hb dX0_candidates_27 rfl (lv_at hl 5 rfl) ?_
  have il7 : (24 * b + (Int32.toNatClampNeg p0)) < 48 := by (first | exact om_22346e364ab0 rg_p0.2 hb2 kc2 | omega)
  refine va_iald (D := D) (i := p1) hx hb hK hP (168 + (24 * b + (Int32.toNatClampNeg p0))) (161 + (24 * b + (Int32.toNatClampNeg p0))) (xgneedWords il7) (xtneedWords il7) (i_in (a := p1.toInt) rfl (by omega)) dX0_candidates_28 ?_
  refine g_top (v := V 59 (8 * (24 * b + (Int32.toNatClampNeg p0)) + (Int32.toNatClampNeg p1))) (if_pos (by omega)) ?_
  refine lv_istore (lv' := [(6, .int (V 59 (8 * (24 * b + (Int32.toNatClampNeg p0)) + (Int32.toNatClampNeg p1)))), (5, .int (V 58 (8 * (24 * b + (Int32.toNatClampNeg p0)) + (Int32.toNatClampNeg p1)))), (4, .int (V 60 (8 * (24 * b + (Int32.toNatClampNeg p0)) + (Int32.toNatClampNeg p1)))), (3, .ref (ad (72 + (24 * b + (Int32.toNatClampNeg p0))))), (0, .ref (ad (38 + b))), (1, .int p0), (2, .int p1)]) hx hb dX0_candidates_29 hl (by decide) rfl (fun ls hl => ?_)
  refine lv_iconst (v := 0) hx hb dX0_candidates_31 (by decide) ?_
  refine lv_istore (lv' := [(7, .int 0), (6, .int (V 59 (8 * (24 * b + (Int32.toNatClampNeg p0)) + (Int32.toNatClampNeg p1)))), (5, .int (V 58 (8 * (24 * b + (Int32.toNatClampNeg p0)) + (Int32.toNatClampNeg p1)))), (4, .int (V 60 (8 * (24 * b + (Int32.toNatClampNeg p0)) + (Int32.toNatClampNeg p1)))), (3, .ref (ad (72 + (24 * b + (Int32.toNatClampNeg p0))))), (0, .ref (ad (38 + b))), (1, .int p0), (2, .int p1)]) hx hb dX0_candidates_32 hl (by decide) rfl (fun ls hl => ?_)
  refine lv_iconst (v := 0) hx hb dX0_candidates_34 (by decide) ?_
  refine lv_istore (lv' := [(8, .int 0), (7, .int 0), (6, .int (V 59 (8 * (24 * b + (Int32.toNatClampNeg p0)) + (Int32.toNatClampNeg p1)))), (5, .int (V 58 (8 * (24 * b + (Int32.toNatClampNeg p0)) + (Int32.toNatClampNeg p1)))), (4, .int (V 60 (8 * (24 * b + (Int32.toNatClampNeg p0)) + (Int32.toNatClampNeg p1)))), (3, .ref (ad (72 + (24 * b + (Int32.toNatClampNeg p0))))), (0, .ref (ad (38 + b))), (1, .int p0), (2, .int p1)]) hx hb dX0_candidates_35 hl (by decide) rfl (fun ls hl => ?_)
  refine lv_iconst (v := 0) hx hb dX0_candidates_37 (by decide) ?_
  refine lv_istore (lv' := [(9, .int 0), (8, .int 0), (7, .int 0), (6, .int (V 59 (8 * (24 * b + (Int32.toNatClampNeg p0)) + (Int32.toNatClampNeg p1)))), (5, .int (V 58 (8 * (24 * b + (Int32.toNatClampNeg p0)) + (Int32.toNatClampNeg p1)))), (4, .int (V 60 (8 * (24 * b + (Int32.toNatClampNeg p0)) + (Int32.toNatClampNeg p1)))), (3, .ref (ad (72 + (24 * b + (Int32.toNatClampNeg p0))))), (0, .ref (ad (38 + b))), (1, .int p0), (2, .int p1)]) hx hb dX0_candidates_38 hl (by decide) rfl (fun ls hl => ?_)
  have lp11 : ∀ (fulp11 : Nat) (y8 : Int32) (y9 : Int32) (y10 : Int32) (H : Heap) (locs : List Loc) (ls : Array Slot), 0 ≤ y8.toInt ∧ y8.toInt ≤ 24 → 0 ≤ y10.toInt ∧ y10.toInt ≤ 16777215 → 24 - y8.toInt < (fulp11 : Int) → va_P D vwCl (xw ad kk V L Z) H → va_D A (xw ad kk V L Z) → va_S A s.heap H locs → lv_has ls 12 [(9, .int y8), (8, .int y9), (7, .int y10), (6, .int (V 59 (8 * (24 * b + (Int32.toNatClampNeg p0)) + (Int32.toNatClampNeg p1)))), (5, .int (V 58 (8 * (24 * b + (Int32.toNatClampNeg p0)) + (Int32.toNatClampNeg p1)))), (4, .int (V 60 (8 * (24 * b + (Int32.toNatClampNeg p0)) + (Int32.toNatClampNeg p1)))), (3, .ref (ad (72 + (24 * b + (Int32.toNatClampNeg p0))))), (0, .ref (ad (38 + b))), (1, .int p0), (2, .int p1)] → W p l e r_x_candidates2 s m ([.ref (ad (38 + b)), .int p0, .int p1] : List Value).toArray below meth c H locs 0 0 (MQ below (q_x_candidates2 D ks ad kk V L Z p0 p1 b A) ([.ref (ad (38 + b)), .int p0, .int p1] : List Value).toArray s 0 0 A) (F0 m 40 ls []) := by
    intro fulp11
    induction fulp11 with
    | zero =>
      intro y8 y9 y10 H locs ls klp11_0 klp11_1 hn  hP hD hS hl
      exfalso; omega
    | succ fulp11 ihlp11 =>
      intro y8 y9 y10 H locs ls klp11_0 klp11_1 hn  hP hD hS hl
      refine lv_iload hx hb dX0_candidates_40 (lv_at hl 0 rfl) ?_
      refine lv_aload_n hx hb dX0_candidates_42 rfl (lv_at hl 7 rfl) ?_
      refine va_get (D := D) (ci := 0) (v := .ref (ad (40 + (5 * b + 2)))) (fs := (xfBook ad V b)) (C := RX0) (T := TX0) (N := 13) hx hb hg inX0 hown hK hP (38 + b) (xgBook hb2) rfl 2 (by decide) (hg _ w599) (fun _ h9 => h9) rfl dX0_candidates_43 ?_
      have il12 : (5 * b + 2) < 10 := by (first | exact om_1478e52fbf50 hb2 | omega)
      refine va_getN (D := D) (ci := 6) (v := .int (V 43 (5 * b + 2))) (fs := (xfNames ad V (5 * b + 2))) (C := RX6) (T := TX6) (N := 2) hx hb hg inX6 hown hK hP (40 + (5 * b + 2)) (xgNames il12) rfl 1 (by decide) (hnw.use 481 n481 rfl) (fun _ h9 => h9) rfl dX0_candidates_46 ?_
      have r13 : 0 ≤ ((V 43 (5 * b + 2))).toInt ∧ ((V 43 (5 * b + 2))).toInt ≤ ((xcap (5 * b + 2) : Nat) : Int) := hMV 43 (5 * b + 2)
      have r14 : xcap (5 * b + 2) = 24 := xcap_2
      refine lv_icmp_ge (tgt := 171) hx hb dX0_candidates_49 (by decide) (fun c15 => ?_) (fun c15 => ?_)
      · skip
        have f16 : ((V 43 (5 * b + 2))).toInt ≤ y8.toInt := b_le rfl rfl c15
        refine lv_iload hx hb dX0_candidates_171 (lv_at hl 2 rfl) ?_
        exact W.iret (v := y10) hx hb hr (fun t ht hW => ⟨⟨y10, (), rfl, (show 0 ≤ y10.toInt ∧ y10.toInt ≤ 16777215 from by (first | exact om_c51a6401fccc klp11_1.1 klp11_1.2 | omega)), by rw [ht]; exact hP, va_K.moved hW.alike hK, hD⟩, hS.F ht⟩) hS.2.2 dX0_candidates_173
      · skip
        have f17 : y8.toInt < ((V 43 (5 * b + 2))).toInt := b_nle rfl rfl c15
        refine lv_aload_n hx hb dX0_candidates_52 rfl (lv_at hl 7 rfl) ?_
        refine va_get (D := D) (ci := 0) (v := .ref (ad (64 + b))) (fs := (xfBook ad V b)) (C := RX0) (T := TX0) (N := 13) hx hb hg inX0 hown hK hP (38 + b) (xgBook hb2) rfl 7 (by decide) (hg _ w614) (fun _ h9 => h9) rfl dX0_candidates_53 ?_
        refine lv_iload hx hb dX0_candidates_56 (lv_at hl 0 rfl) ?_
        refine va_aldq (D := D) (i := y8) hx hb hK hP (64 + b) (57 + b) (xgcomps il1) (xtcomps il1) (i_in (a := y8.toInt) rfl (by omega)) dX0_candidates_58 ?_
        have kc18 := i_clamp (x := y8) rfl (by (first | exact om_eafa9039069c klp11_0.1 | omega))
        refine g_topv (v := .ref (ad (72 + (24 * b + (Int32.toNatClampNeg y8))))) (congrArg va_rf (if_pos (by omega))) ?_
        have il19 : (24 * b + (Int32.toNatClampNeg y8)) < 48 := by (first | exact om_896e2f636ed1 hb2 r13.2 r14 f17 kc18 | omega)
        refine lv_astore (lv' := [(10, .ref (ad (72 + (24 * b + (Int32.toNatClampNeg y8))))), (9, .int y8), (8, .int y9), (7, .int y10), (6, .int (V 59 (8 * (24 * b + (Int32.toNatClampNeg p0)) + (Int32.toNatClampNeg p1)))), (5, .int (V 58 (8 * (24 * b + (Int32.toNatClampNeg p0)) + (Int32.toNatClampNeg p1)))), (4, .int (V 60 (8 * (24 * b + (Int32.toNatClampNeg p0)) + (Int32.toNatClampNeg p1)))), (3, .ref (ad (72 + (24 * b + (Int32.toNatClampNeg p0))))), (0, .ref (ad (38 + b))), (1, .int p0), (2, .int p1)]) hx hb dX0_candidates_59 hl (by decide) rfl (fun ls hl => ?_)
        refine lv_iload hx hb dX0_candidates_61 (lv_at hl 4 rfl) ?_
        refine lv_iconst (v := (-1)) hx hb dX0_candidates_63 (by decide) ?_
        refine lv_icmp_eq (tgt := 77) hx hb dX0_candidates_64 (by decide) (fun c20 => ?_) (fun c20 => ?_)
        · skip
          have f21 : ((V 59 (8 * (24 * b + (Int32.toNatClampNeg p0)) + (Int32.toNatClampNeg p1)))).toInt = (-1) := b_eq rfl (by decide) c20
          refine lv_iconst (v := 1) hx hb dX0_candidates_77 (by decide) ?_
          refine lv_goto (tgt := 82) hx hb dX0_candidates_78 (by decide) ?_
          refine lv_istore (lv' := [(11, .int 1), (10, .ref (ad (72 + (24 * b + (Int32.toNatClampNeg y8))))), (9, .int y8), (8, .int y9), (7, .int y10), (6, .int (V 59 (8 * (24 * b + (Int32.toNatClampNeg p0)) + (Int32.toNatClampNeg p1)))), (5, .int (V 58 (8 * (24 * b + (Int32.toNatClampNeg p0)) + (Int32.toNatClampNeg p1)))), (4, .int (V 60 (8 * (24 * b + (Int32.toNatClampNeg p0)) + (Int32.toNatClampNeg p1)))), (3, .ref (ad (72 + (24 * b + (Int32.toNatClampNeg p0))))), (0, .ref (ad (38 + b))), (1, .int p0), (2, .int p1)]) hx hb dX0_candidates_82 hl (by decide) rfl (fun ls hl => ?_)
          refine lv_aload hx hb dX0_candidates_84 (lv_at hl 1 rfl) ?_
          refine va_getN (D := D) (ci := 3) (v := .int (V 50 (24 * b + (Int32.toNatClampNeg y8)))) (fs := (xfComp ad V (24 * b + (Int32.toNatClampNeg y8)))) (C := RX3) (T := TX3) (N := 13) hx hb hg inX3 hown hK hP (72 + (24 * b + (Int32.toNatClampNeg y8))) (xgComp il19) rfl 5 (by decide) (hnw.use 517 n517 rfl) (fun _ h9 => h9) rfl dX0_candidates_86 ?_
          refine lv_iload hx hb dX0_candidates_89 (lv_at hl 6 rfl) ?_
          refine lv_ishr hx hb dX0_candidates_91 ?_
          refine lv_topi (fun z22 ez22 => ?_)
          refine lv_iconst (v := 1) hx hb dX0_candidates_92 (by decide) ?_
          refine lv_iand hx hb dX0_candidates_93 ?_
          refine lv_topi (fun z23 ez23 => ?_)
          have hz23 : 0 ≤ z23.toInt ∧ z23.toInt ≤ 1 := and_m ez23 (by decide)
          refine lv_if_eq (tgt := 165) hx hb dX0_candidates_94 (by decide) (fun c24 => ?_) (fun c24 => ?_)
          · skip
            have f25 : z23.toInt = 0 := b_eq rfl (by decide) c24
            obtain ⟨z26, ez26⟩ : ∃ y : Int32, y = y8 + 1 := ⟨_, rfl⟩
            have hz26 : z26.toInt = y8.toInt + 1 := i_add ez26 rfl (by decide) (by (first | exact om_c7103e519a6e klp11_0.1 r13.2 r14 f17 | omega))
            refine lv_iinc (v := z26) (lv' := [(9, .int z26), (11, .int 1), (10, .ref (ad (72 + (24 * b + (Int32.toNatClampNeg y8))))), (8, .int y9), (7, .int y10), (6, .int (V 59 (8 * (24 * b + (Int32.toNatClampNeg p0)) + (Int32.toNatClampNeg p1)))), (5, .int (V 58 (8 * (24 * b + (Int32.toNatClampNeg p0)) + (Int32.toNatClampNeg p1)))), (4, .int (V 60 (8 * (24 * b + (Int32.toNatClampNeg p0)) + (Int32.toNatClampNeg p1)))), (3, .ref (ad (72 + (24 * b + (Int32.toNatClampNeg p0))))), (0, .ref (ad (38 + b))), (1, .int p0), (2, .int p1)]) hx hb dX0_candidates_165 hl (k := 2) rfl (by rw [ez26]; rfl) (by decide) rfl (fun ls hl => ?_)
            refine lv_goto (tgt := 40) hx hb dX0_candidates_168 (by decide) ?_
            have r27 : Int32.toInt 1 = 1 := by decide
            exact ihlp11 z26 y9 y10 H locs ls (by (first | exact om_ebd92ed44179 klp11_0.1 r13.2 r14 f17 hz26 | omega)) (by (first | exact om_c51a6401fccc klp11_1.1 klp11_1.2 | omega)) (by (first | exact om_9592d9319ffa hn hz26 | omega)) hP hD hS (lv_sub hl [0, 3, 4, 5, 6, 7, 8, 9, 10, 11] rfl)
          · skip
            have f28 : z23.toInt ≠ 0 := b_neq rfl (by decide) c24
            refine lv_iload hx hb dX0_candidates_97 (lv_at hl 0 rfl) ?_
            refine lv_if_eq (tgt := 165) hx hb dX0_candidates_99 (by decide) (fun q => absurd q (by decide)) (fun _ => ?_)
            refine lv_aload_n hx hb dX0_candidates_102 rfl (lv_at hl 9 rfl) ?_
            refine lv_iload hx hb dX0_candidates_103 (lv_at hl 2 rfl) ?_
            refine gA_int (gA_runV (As := [.int y8]) (rest := []) (ci := 0) (q0 := (38 + b)) hx hb hml hown hg hP hD hK hS hA hnw hgk (x_isThere l D ks H.size ad kk V L Z y8 (b) hMV (by (first | exact om_5ea855d61ca3 klp11_0.1 r13.2 r14 f17 | omega)) (show b < 2 from by (first | exact om_f940a4667dd6 hb2 | omega))) w1085 w1070 w1071 w167 w1072 rfl (xgBook hb2) hdV_yX0_isThere ⟨Nat.le_of_ble_eq_true rfl, Nat.le_of_ble_eq_true rfl⟩ rfl hl.1 rfl (Nat.le_of_ble_eq_true rfl) dX0_candidates_105 ⟨Nat.le_of_ble_eq_true rfl, Nat.le_of_ble_eq_true rfl⟩) hP hD hK hS hA (fun z29 u30 H locs w31 hP hD hK hS => ?_)
            have rgz29 := w31
            have rgz29 : 0 ≤ z29.toInt ∧ z29.toInt ≤ 1 := rgz29
            refine lv_if_ne (tgt := 114) hx hb dX0_candidates_108 (by decide) (fun c32 => ?_) (fun c32 => ?_)
            · skip
              have f33 : z29.toInt ≠ 0 := b_neq rfl (by decide) c32
              refine lv_iload hx hb dX0_candidates_114 (lv_at hl 7 rfl) ?_
              refine lv_iconst (v := 2) hx hb dX0_candidates_116 (by decide) ?_
              refine lv_icmp_eq (tgt := 140) hx hb dX0_candidates_117 (by decide) (fun c34 => ?_) (fun c34 => ?_)
              · skip
                have f35 : ((V 60 (8 * (24 * b + (Int32.toNatClampNeg p0)) + (Int32.toNatClampNeg p1)))).toInt = 2 := b_eq rfl (by decide) c34
                refine lv_iload hx hb dX0_candidates_140 (lv_at hl 7 rfl) ?_
                refine lv_iconst (v := 2) hx hb dX0_candidates_142 (by decide) ?_
                refine lv_icmp_eq (tgt := 156) hx hb dX0_candidates_143 (by decide) (fun c36 => ?_) (fun c36 => ?_)
                · skip
                  have f37 : ((V 60 (8 * (24 * b + (Int32.toNatClampNeg p0)) + (Int32.toNatClampNeg p1)))).toInt = 2 := b_eq rfl (by decide) c36
                  refine lv_iload hx hb dX0_candidates_156 (lv_at hl 4 rfl) ?_
                  refine lv_iconst (v := 1) hx hb dX0_candidates_158 (by decide) ?_
                  refine lv_iload hx hb dX0_candidates_159 (lv_at hl 2 rfl) ?_
                  refine lv_ishl hx hb dX0_candidates_161 ?_
                  refine lv_topi (fun z38 ez38 => ?_)
                  have hz38 : 0 ≤ z38.toInt ∧ z38.toInt < 16777216 := shl1 ez38 (by omega)
                  refine lv_ior hx hb dX0_candidates_162 ?_
                  refine lv_topi (fun z39 ez39 => ?_)
                  have hz39 : 0 ≤ z39.toInt ∧ z39.toInt < 16777216 := or24 ez39 (by omega) (by omega)
                  refine lv_istore (lv' := [(7, .int z39), (11, .int 1), (10, .ref (ad (72 + (24 * b + (Int32.toNatClampNeg y8))))), (9, .int y8), (8, .int y9), (6, .int (V 59 (8 * (24 * b + (Int32.toNatClampNeg p0)) + (Int32.toNatClampNeg p1)))), (5, .int (V 58 (8 * (24 * b + (Int32.toNatClampNeg p0)) + (Int32.toNatClampNeg p1)))), (4, .int (V 60 (8 * (24 * b + (Int32.toNatClampNeg p0)) + (Int32.toNatClampNeg p1)))), (3, .ref (ad (72 + (24 * b + (Int32.toNatClampNeg p0))))), (0, .ref (ad (38 + b))), (1, .int p0), (2, .int p1)]) hx hb dX0_candidates_163 hl (by decide) rfl (fun ls hl => ?_)
                  obtain ⟨z40, ez40⟩ : ∃ y : Int32, y = y8 + 1 := ⟨_, rfl⟩
                  have hz40 : z40.toInt = y8.toInt + 1 := i_add ez40 rfl (by decide) (by (first | exact om_c7103e519a6e klp11_0.1 r13.2 r14 f17 | omega))
                  refine lv_iinc (v := z40) (lv' := [(9, .int z40), (7, .int z39), (11, .int 1), (10, .ref (ad (72 + (24 * b + (Int32.toNatClampNeg y8))))), (8, .int y9), (6, .int (V 59 (8 * (24 * b + (Int32.toNatClampNeg p0)) + (Int32.toNatClampNeg p1)))), (5, .int (V 58 (8 * (24 * b + (Int32.toNatClampNeg p0)) + (Int32.toNatClampNeg p1)))), (4, .int (V 60 (8 * (24 * b + (Int32.toNatClampNeg p0)) + (Int32.toNatClampNeg p1)))), (3, .ref (ad (72 + (24 * b + (Int32.toNatClampNeg p0))))), (0, .ref (ad (38 + b))), (1, .int p0), (2, .int p1)]) hx hb dX0_candidates_165 hl (k := 3) rfl (by rw [ez40]; rfl) (by decide) rfl (fun ls hl => ?_)
                  refine lv_goto (tgt := 40) hx hb dX0_candidates_168 (by decide) ?_
                  have r41 : Int32.toInt 1 = 1 := by decide
                  exact ihlp11 z40 y9 z39 H locs ls (by (first | exact om_ebd92ed44179 klp11_0.1 r13.2 r14 f17 hz40 | omega)) (by (first | exact om_8a0dcf576dcd hz39.1 hz39.2 | omega)) (by (first | exact om_9592d9319ffa hn hz40 | omega)) hP hD hS (lv_sub hl [0, 4, 1, 5, 6, 7, 8, 9, 10, 11] rfl)
                · skip
                  have f42 : ((V 60 (8 * (24 * b + (Int32.toNatClampNeg p0)) + (Int32.toNatClampNeg p1)))).toInt ≠ 2 := b_neq rfl (by decide) c36
                  exfalso; (first | exact om_da4eef675bfb f35 f42 | omega)
              · skip
                have f43 : ((V 60 (8 * (24 * b + (Int32.toNatClampNeg p0)) + (Int32.toNatClampNeg p1)))).toInt ≠ 2 := b_neq rfl (by decide) c34
                refine lv_aload hx hb dX0_candidates_120 (lv_at hl 1 rfl) ?_
                refine va_getN (D := D) (ci := 3) (v := .int (V 53 (24 * b + (Int32.toNatClampNeg y8)))) (fs := (xfComp ad V (24 * b + (Int32.toNatClampNeg y8)))) (C := RX3) (T := TX3) (N := 13) hx hb hg inX3 hown hK hP (72 + (24 * b + (Int32.toNatClampNeg y8))) (xgComp il19) rfl 8 (by decide) (hnw.use 529 n529 rfl) (fun _ h9 => h9) rfl dX0_candidates_122 ?_
                refine lv_iload hx hb dX0_candidates_125 (lv_at hl 3 rfl) ?_
                refine lv_icmp_le (tgt := 140) hx hb dX0_candidates_127 (by decide) (fun c44 => ?_) (fun c44 => ?_)
                · skip
                  have f45 : ((V 53 (24 * b + (Int32.toNatClampNeg y8)))).toInt ≤ y9.toInt := b_le rfl rfl c44
                  refine lv_iload hx hb dX0_candidates_140 (lv_at hl 7 rfl) ?_
                  refine lv_iconst (v := 2) hx hb dX0_candidates_142 (by decide) ?_
                  refine lv_icmp_eq (tgt := 156) hx hb dX0_candidates_143 (by decide) (fun c46 => ?_) (fun c46 => ?_)
                  · skip
                    have f47 : ((V 60 (8 * (24 * b + (Int32.toNatClampNeg p0)) + (Int32.toNatClampNeg p1)))).toInt = 2 := b_eq rfl (by decide) c46
                    refine lv_iload hx hb dX0_candidates_156 (lv_at hl 4 rfl) ?_
                    refine lv_iconst (v := 1) hx hb dX0_candidates_158 (by decide) ?_
                    refine lv_iload hx hb dX0_candidates_159 (lv_at hl 2 rfl) ?_
                    refine lv_ishl hx hb dX0_candidates_161 ?_
                    refine lv_topi (fun z48 ez48 => ?_)
                    have hz48 : 0 ≤ z48.toInt ∧ z48.toInt < 16777216 := shl1 ez48 (by omega)
                    refine lv_ior hx hb dX0_candidates_162 ?_
                    refine lv_topi (fun z49 ez49 => ?_)
                    have hz49 : 0 ≤ z49.toInt ∧ z49.toInt < 16777216 := or24 ez49 (by omega) (by omega)
                    refine lv_istore (lv' := [(7, .int z49), (11, .int 1), (10, .ref (ad (72 + (24 * b + (Int32.toNatClampNeg y8))))), (9, .int y8), (8, .int y9), (6, .int (V 59 (8 * (24 * b + (Int32.toNatClampNeg p0)) + (Int32.toNatClampNeg p1)))), (5, .int (V 58 (8 * (24 * b + (Int32.toNatClampNeg p0)) + (Int32.toNatClampNeg p1)))), (4, .int (V 60 (8 * (24 * b + (Int32.toNatClampNeg p0)) + (Int32.toNatClampNeg p1)))), (3, .ref (ad (72 + (24 * b + (Int32.toNatClampNeg p0))))), (0, .ref (ad (38 + b))), (1, .int p0), (2, .int p1)]) hx hb dX0_candidates_163 hl (by decide) rfl (fun ls hl => ?_)
                    obtain ⟨z50, ez50⟩ : ∃ y : Int32, y = y8 + 1 := ⟨_, rfl⟩
                    have hz50 : z50.toInt = y8.toInt + 1 := i_add ez50 rfl (by decide) (by omega)
                    refine lv_iinc (v := z50) (lv' := [(9, .int z50), (7, .int z49), (11, .int 1), (10, .ref (ad (72 + (24 * b + (Int32.toNatClampNeg y8))))), (8, .int y9), (6, .int (V 59 (8 * (24 * b + (Int32.toNatClampNeg p0)) + (Int32.toNatClampNeg p1)))), (5, .int (V 58 (8 * (24 * b + (Int32.toNatClampNeg p0)) + (Int32.toNatClampNeg p1)))), (4, .int (V 60 (8 * (24 * b + (Int32.toNatClampNeg p0)) + (Int32.toNatClampNeg p1)))), (3, .ref (ad (72 + (24 * b + (Int32.toNatClampNeg p0))))), (0, .ref (ad (38 + b))), (1, .int p0), (2, .int p1)]) hx hb dX0_candidates_165 hl (k := 3) rfl (by rw [ez50]; rfl) (by decide) rfl (fun ls hl => ?_)
                    refine lv_goto (tgt := 40) hx hb dX0_candidates_168 (by decide) ?_
                    have r51 : Int32.toInt 1 = 1 := by decide
                    exact ihlp11 z50 y9 z49 H locs ls (by omega) (by omega) (by omega) hP hD hS (lv_sub hl [0, 4, 1, 5, 6, 7, 8, 9, 10, 11] rfl)
                  · skip
                    have f52 : ((V 60 (8 * (24 * b + (Int32.toNatClampNeg p0)) + (Int32.toNatClampNeg p1)))).toInt ≠ 2 := b_neq rfl (by decide) c46
                    refine lv_aload hx hb dX0_candidates_146 (lv_at hl 1 rfl) ?_
                    refine va_getN (D := D) (ci := 3) (v := .int (V 53 (24 * b + (Int32.toNatClampNeg y8)))) (fs := (xfComp ad V (24 * b + (Int32.toNatClampNeg y8)))) (C := RX3) (T := TX3) (N := 13) hx hb hg inX3 hown hK hP (72 + (24 * b + (Int32.toNatClampNeg y8))) (xgComp il19) rfl 8 (by decide) (hnw.use 529 n529 rfl) (fun _ h9 => h9) rfl dX0_candidates_148 ?_
                    refine lv_iload hx hb dX0_candidates_151 (lv_at hl 3 rfl) ?_
                    refine lv_icmp_ne (tgt := 165) hx hb dX0_candidates_153 (by decide) (fun c53 => ?_) (fun c53 => ?_)
                    · skip
                      have f54 : ((V 53 (24 * b + (Int32.toNatClampNeg y8)))).toInt ≠ y9.toInt := b_neq rfl rfl c53
                      obtain ⟨z55, ez55⟩ : ∃ y : Int32, y = y8 + 1 := ⟨_, rfl⟩
                      have hz55 : z55.toInt = y8.toInt + 1 := i_add ez55 rfl (by decide) (by (first | exact om_c7103e519a6e klp11_0.1 r13.2 r14 f17 | omega))
                      refine lv_iinc (v := z55) (lv' := [(9, .int z55), (11, .int 1), (10, .ref (ad (72 + (24 * b + (Int32.toNatClampNeg y8))))), (8, .int y9), (7, .int y10), (6, .int (V 59 (8 * (24 * b + (Int32.toNatClampNeg p0)) + (Int32.toNatClampNeg p1)))), (5, .int (V 58 (8 * (24 * b + (Int32.toNatClampNeg p0)) + (Int32.toNatClampNeg p1)))), (4, .int (V 60 (8 * (24 * b + (Int32.toNatClampNeg p0)) + (Int32.toNatClampNeg p1)))), (3, .ref (ad (72 + (24 * b + (Int32.toNatClampNeg p0))))), (0, .ref (ad (38 + b))), (1, .int p0), (2, .int p1)]) hx hb dX0_candidates_165 hl (k := 2) rfl (by rw [ez55]; rfl) (by decide) rfl (fun ls hl => ?_)
                      refine lv_goto (tgt := 40) hx hb dX0_candidates_168 (by decide) ?_
                      have r56 : Int32.toInt 1 = 1 := by decide
                      exact ihlp11 z55 y9 y10 H locs ls (by (first | exact om_ebd92ed44179 klp11_0.1 r13.2 r14 f17 hz55 | omega)) (by (first | exact om_c51a6401fccc klp11_1.1 klp11_1.2 | omega)) (by (first | exact om_9592d9319ffa hn hz55 | omega)) hP hD hS (lv_sub hl [0, 3, 4, 5, 6, 7, 8, 9, 10, 11] rfl)
                    · skip
                      have f57 : ((V 53 (24 * b + (Int32.toNatClampNeg y8)))).toInt = y9.toInt := b_eq rfl rfl c53
                      refine lv_iload hx hb dX0_candidates_156 (lv_at hl 4 rfl) ?_
                      refine lv_iconst (v := 1) hx hb dX0_candidates_158 (by decide) ?_
                      refine lv_iload hx hb dX0_candidates_159 (lv_at hl 2 rfl) ?_
                      refine lv_ishl hx hb dX0_candidates_161 ?_
                      refine lv_topi (fun z58 ez58 => ?_)
                      have hz58 : 0 ≤ z58.toInt ∧ z58.toInt < 16777216 := shl1 ez58 (by omega)
                      refine lv_ior hx hb dX0_candidates_162 ?_
                      refine lv_topi (fun z59 ez59 => ?_)
                      have hz59 : 0 ≤ z59.toInt ∧ z59.toInt < 16777216 := or24 ez59 (by omega) (by omega)
                      refine lv_istore (lv' := [(7, .int z59), (11, .int 1), (10, .ref (ad (72 + (24 * b + (Int32.toNatClampNeg y8))))), (9, .int y8), (8, .int y9), (6, .int (V 59 (8 * (24 * b + (Int32.toNatClampNeg p0)) + (Int32.toNatClampNeg p1)))), (5, .int (V 58 (8 * (24 * b + (Int32.toNatClampNeg p0)) + (Int32.toNatClampNeg p1)))), (4, .int (V 60 (8 * (24 * b + (Int32.toNatClampNeg p0)) + (Int32.toNatClampNeg p1)))), (3, .ref (ad (72 + (24 * b + (Int32.toNatClampNeg p0))))), (0, .ref (ad (38 + b))), (1, .int p0), (2, .int p1)]) hx hb dX0_candidates_163 hl (by decide) rfl (fun ls hl => ?_)
                      obtain ⟨z60, ez60⟩ : ∃ y : Int32, y = y8 + 1 := ⟨_, rfl⟩
                      have hz60 : z60.toInt = y8.toInt + 1 := i_add ez60 rfl (by decide) (by (first | exact om_c7103e519a6e klp11_0.1 r13.2 r14 f17 | omega))
                      refine lv_iinc (v := z60) (lv' := [(9, .int z60), (7, .int z59), (11, .int 1), (10, .ref (ad (72 + (24 * b + (Int32.toNatClampNeg y8))))), (8, .int y9), (6, .int (V 59 (8 * (24 * b + (Int32.toNatClampNeg p0)) + (Int32.toNatClampNeg p1)))), (5, .int (V 58 (8 * (24 * b + (Int32.toNatClampNeg p0)) + (Int32.toNatClampNeg p1)))), (4, .int (V 60 (8 * (24 * b + (Int32.toNatClampNeg p0)) + (Int32.toNatClampNeg p1)))), (3, .ref (ad (72 + (24 * b + (Int32.toNatClampNeg p0))))), (0, .ref (ad (38 + b))), (1, .int p0), (2, .int p1)]) hx hb dX0_candidates_165 hl (k := 3) rfl (by rw [ez60]; rfl) (by decide) rfl (fun ls hl => ?_)
                      refine lv_goto (tgt := 40) hx hb dX0_candidates_168 (by decide) ?_
                      have r61 : Int32.toInt 1 = 1 := by decide
                      exact ihlp11 z60 y9 z59 H locs ls (by (first | exact om_ebd92ed44179 klp11_0.1 r13.2 r14 f17 hz60 | omega)) (by (first | exact om_8a0dcf576dcd hz59.1 hz59.2 | omega)) (by (first | exact om_9592d9319ffa hn hz60 | omega)) hP hD hS (lv_sub hl [0, 4, 1, 5, 6, 7, 8, 9, 10, 11] rfl)
                · skip
                  have f62 : y9.toInt < ((V 53 (24 * b + (Int32.toNatClampNeg y8)))).toInt := b_nle rfl rfl c44
                  refine lv_aload hx hb dX0_candidates_130 (lv_at hl 1 rfl) ?_
                  refine va_getN (D := D) (ci := 3) (v := .int (V 53 (24 * b + (Int32.toNatClampNeg y8)))) (fs := (xfComp ad V (24 * b + (Int32.toNatClampNeg y8)))) (C := RX3) (T := TX3) (N := 13) hx hb hg inX3 hown hK hP (72 + (24 * b + (Int32.toNatClampNeg y8))) (xgComp il19) rfl 8 (by decide) (hnw.use 529 n529 rfl) (fun _ h9 => h9) rfl dX0_candidates_132 ?_
                  refine lv_istore (lv' := [(8, .int (V 53 (24 * b + (Int32.toNatClampNeg y8)))), (11, .int 1), (10, .ref (ad (72 + (24 * b + (Int32.toNatClampNeg y8))))), (9, .int y8), (7, .int y10), (6, .int (V 59 (8 * (24 * b + (Int32.toNatClampNeg p0)) + (Int32.toNatClampNeg p1)))), (5, .int (V 58 (8 * (24 * b + (Int32.toNatClampNeg p0)) + (Int32.toNatClampNeg p1)))), (4, .int (V 60 (8 * (24 * b + (Int32.toNatClampNeg p0)) + (Int32.toNatClampNeg p1)))), (3, .ref (ad (72 + (24 * b + (Int32.toNatClampNeg p0))))), (0, .ref (ad (38 + b))), (1, .int p0), (2, .int p1)]) hx hb dX0_candidates_135 hl (by decide) rfl (fun ls hl => ?_)
                  refine lv_iconst (v := 0) hx hb dX0_candidates_137 (by decide) ?_
                  refine lv_istore (lv' := [(7, .int 0), (8, .int (V 53 (24 * b + (Int32.toNatClampNeg y8)))), (11, .int 1), (10, .ref (ad (72 + (24 * b + (Int32.toNatClampNeg y8))))), (9, .int y8), (6, .int (V 59 (8 * (24 * b + (Int32.toNatClampNeg p0)) + (Int32.toNatClampNeg p1)))), (5, .int (V 58 (8 * (24 * b + (Int32.toNatClampNeg p0)) + (Int32.toNatClampNeg p1)))), (4, .int (V 60 (8 * (24 * b + (Int32.toNatClampNeg p0)) + (Int32.toNatClampNeg p1)))), (3, .ref (ad (72 + (24 * b + (Int32.toNatClampNeg p0))))), (0, .ref (ad (38 + b))), (1, .int p0), (2, .int p1)]) hx hb dX0_candidates_138 hl (by decide) rfl (fun ls hl => ?_)
                  refine lv_iload hx hb dX0_candidates_140 (lv_at hl 7 rfl) ?_
                  refine lv_iconst (v := 2) hx hb dX0_candidates_142 (by decide) ?_
                  refine lv_icmp_eq (tgt := 156) hx hb dX0_candidates_143 (by decide) (fun c63 => ?_) (fun c63 => ?_)
                  · skip
                    have f64 : ((V 60 (8 * (24 * b + (Int32.toNatClampNeg p0)) + (Int32.toNatClampNeg p1)))).toInt = 2 := b_eq rfl (by decide) c63
                    refine lv_iload hx hb dX0_candidates_156 (lv_at hl 0 rfl) ?_
                    refine lv_iconst (v := 1) hx hb dX0_candidates_158 (by decide) ?_
                    refine lv_iload hx hb dX0_candidates_159 (lv_at hl 4 rfl) ?_
                    refine lv_ishl hx hb dX0_candidates_161 ?_
                    refine lv_topi (fun z65 ez65 => ?_)
                    have hz65 : 0 ≤ z65.toInt ∧ z65.toInt < 16777216 := shl1 ez65 (by omega)
                    refine lv_ior hx hb dX0_candidates_162 ?_
                    refine lv_topi (fun z66 ez66 => ?_)
                    have hz66 : 0 ≤ z66.toInt ∧ z66.toInt < 16777216 := or24 ez66 (by decide) (by omega)
                    refine lv_istore (lv' := [(7, .int z66), (8, .int (V 53 (24 * b + (Int32.toNatClampNeg y8)))), (11, .int 1), (10, .ref (ad (72 + (24 * b + (Int32.toNatClampNeg y8))))), (9, .int y8), (6, .int (V 59 (8 * (24 * b + (Int32.toNatClampNeg p0)) + (Int32.toNatClampNeg p1)))), (5, .int (V 58 (8 * (24 * b + (Int32.toNatClampNeg p0)) + (Int32.toNatClampNeg p1)))), (4, .int (V 60 (8 * (24 * b + (Int32.toNatClampNeg p0)) + (Int32.toNatClampNeg p1)))), (3, .ref (ad (72 + (24 * b + (Int32.toNatClampNeg p0))))), (0, .ref (ad (38 + b))), (1, .int p0), (2, .int p1)]) hx hb dX0_candidates_163 hl (by decide) rfl (fun ls hl => ?_)
                    obtain ⟨z67, ez67⟩ : ∃ y : Int32, y = y8 + 1 := ⟨_, rfl⟩
                    have hz67 : z67.toInt = y8.toInt + 1 := i_add ez67 rfl (by decide) (by omega)
                    refine lv_iinc (v := z67) (lv' := [(9, .int z67), (7, .int z66), (8, .int (V 53 (24 * b + (Int32.toNatClampNeg y8)))), (11, .int 1), (10, .ref (ad (72 + (24 * b + (Int32.toNatClampNeg y8))))), (6, .int (V 59 (8 * (24 * b + (Int32.toNatClampNeg p0)) + (Int32.toNatClampNeg p1)))), (5, .int (V 58 (8 * (24 * b + (Int32.toNatClampNeg p0)) + (Int32.toNatClampNeg p1)))), (4, .int (V 60 (8 * (24 * b + (Int32.toNatClampNeg p0)) + (Int32.toNatClampNeg p1)))), (3, .ref (ad (72 + (24 * b + (Int32.toNatClampNeg p0))))), (0, .ref (ad (38 + b))), (1, .int p0), (2, .int p1)]) hx hb dX0_candidates_165 hl (k := 4) rfl (by rw [ez67]; rfl) (by decide) rfl (fun ls hl => ?_)
                    refine lv_goto (tgt := 40) hx hb dX0_candidates_168 (by decide) ?_
                    have r68 : Int32.toInt 1 = 1 := by decide
                    exact ihlp11 z67 (V 53 (24 * b + (Int32.toNatClampNeg y8))) z66 H locs ls (by omega) (by omega) (by omega) hP hD hS (lv_sub hl [0, 2, 1, 5, 6, 7, 8, 9, 10, 11] rfl)
                  · skip
                    have f69 : ((V 60 (8 * (24 * b + (Int32.toNatClampNeg p0)) + (Int32.toNatClampNeg p1)))).toInt ≠ 2 := b_neq rfl (by decide) c63
                    refine lv_aload hx hb dX0_candidates_146 (lv_at hl 3 rfl) ?_
                    refine va_getN (D := D) (ci := 3) (v := .int (V 53 (24 * b + (Int32.toNatClampNeg y8)))) (fs := (xfComp ad V (24 * b + (Int32.toNatClampNeg y8)))) (C := RX3) (T := TX3) (N := 13) hx hb hg inX3 hown hK hP (72 + (24 * b + (Int32.toNatClampNeg y8))) (xgComp il19) rfl 8 (by decide) (hnw.use 529 n529 rfl) (fun _ h9 => h9) rfl dX0_candidates_148 ?_
                    refine lv_iload hx hb dX0_candidates_151 (lv_at hl 1 rfl) ?_
                    refine lv_icmp_ne (tgt := 165) hx hb dX0_candidates_153 (by decide) (fun c70 => ?_) (fun c70 => ?_)
                    · skip
                      have f71 : ((V 53 (24 * b + (Int32.toNatClampNeg y8)))).toInt ≠ ((V 53 (24 * b + (Int32.toNatClampNeg y8)))).toInt := b_neq rfl rfl c70
                      obtain ⟨z72, ez72⟩ : ∃ y : Int32, y = y8 + 1 := ⟨_, rfl⟩
                      have hz72 : z72.toInt = y8.toInt + 1 := i_add ez72 rfl (by decide) (by (first | exact om_c7103e519a6e klp11_0.1 r13.2 r14 f17 | omega))
                      refine lv_iinc (v := z72) (lv' := [(9, .int z72), (7, .int 0), (8, .int (V 53 (24 * b + (Int32.toNatClampNeg y8)))), (11, .int 1), (10, .ref (ad (72 + (24 * b + (Int32.toNatClampNeg y8))))), (6, .int (V 59 (8 * (24 * b + (Int32.toNatClampNeg p0)) + (Int32.toNatClampNeg p1)))), (5, .int (V 58 (8 * (24 * b + (Int32.toNatClampNeg p0)) + (Int32.toNatClampNeg p1)))), (4, .int (V 60 (8 * (24 * b + (Int32.toNatClampNeg p0)) + (Int32.toNatClampNeg p1)))), (3, .ref (ad (72 + (24 * b + (Int32.toNatClampNeg p0))))), (0, .ref (ad (38 + b))), (1, .int p0), (2, .int p1)]) hx hb dX0_candidates_165 hl (k := 4) rfl (by rw [ez72]; rfl) (by decide) rfl (fun ls hl => ?_)
                      refine lv_goto (tgt := 40) hx hb dX0_candidates_168 (by decide) ?_
                      have r73 : Int32.toInt 0 = 0 := by decide
                      have r74 : Int32.toInt 1 = 1 := by decide
                      exact ihlp11 z72 (V 53 (24 * b + (Int32.toNatClampNeg y8))) 0 H locs ls (by (first | exact om_ebd92ed44179 klp11_0.1 r13.2 r14 f17 hz72 | omega)) (by decide) (by (first | exact om_9592d9319ffa hn hz72 | omega)) hP hD hS (lv_sub hl [0, 2, 1, 5, 6, 7, 8, 9, 10, 11] rfl)
                    · skip
                      have f75 : ((V 53 (24 * b + (Int32.toNatClampNeg y8)))).toInt = ((V 53 (24 * b + (Int32.toNatClampNeg y8)))).toInt := b_eq rfl rfl c70
                      refine lv_iload hx hb dX0_candidates_156 (lv_at hl 0 rfl) ?_
                      refine lv_iconst (v := 1) hx hb dX0_candidates_158 (by decide) ?_
                      refine lv_iload hx hb dX0_candidates_159 (lv_at hl 4 rfl) ?_
                      refine lv_ishl hx hb dX0_candidates_161 ?_
                      refine lv_topi (fun z76 ez76 => ?_)
                      have hz76 : 0 ≤ z76.toInt ∧ z76.toInt < 16777216 := shl1 ez76 (by omega)
                      refine lv_ior hx hb dX0_candidates_162 ?_
                      refine lv_topi (fun z77 ez77 => ?_)
                      have hz77 : 0 ≤ z77.toInt ∧ z77.toInt < 16777216 := or24 ez77 (by decide) (by omega)
                      refine lv_istore (lv' := [(7, .int z77), (8, .int (V 53 (24 * b + (Int32.toNatClampNeg y8)))), (11, .int 1), (10, .ref (ad (72 + (24 * b + (Int32.toNatClampNeg y8))))), (9, .int y8), (6, .int (V 59 (8 * (24 * b + (Int32.toNatClampNeg p0)) + (Int32.toNatClampNeg p1)))), (5, .int (V 58 (8 * (24 * b + (Int32.toNatClampNeg p0)) + (Int32.toNatClampNeg p1)))), (4, .int (V 60 (8 * (24 * b + (Int32.toNatClampNeg p0)) + (Int32.toNatClampNeg p1)))), (3, .ref (ad (72 + (24 * b + (Int32.toNatClampNeg p0))))), (0, .ref (ad (38 + b))), (1, .int p0), (2, .int p1)]) hx hb dX0_candidates_163 hl (by decide) rfl (fun ls hl => ?_)
                      obtain ⟨z78, ez78⟩ : ∃ y : Int32, y = y8 + 1 := ⟨_, rfl⟩
                      have hz78 : z78.toInt = y8.toInt + 1 := i_add ez78 rfl (by decide) (by (first | exact om_c7103e519a6e klp11_0.1 r13.2 r14 f17 | omega))
                      refine lv_iinc (v := z78) (lv' := [(9, .int z78), (7, .int z77), (8, .int (V 53 (24 * b + (Int32.toNatClampNeg y8)))), (11, .int 1), (10, .ref (ad (72 + (24 * b + (Int32.toNatClampNeg y8))))), (6, .int (V 59 (8 * (24 * b + (Int32.toNatClampNeg p0)) + (Int32.toNatClampNeg p1)))), (5, .int (V 58 (8 * (24 * b + (Int32.toNatClampNeg p0)) + (Int32.toNatClampNeg p1)))), (4, .int (V 60 (8 * (24 * b + (Int32.toNatClampNeg p0)) + (Int32.toNatClampNeg p1)))), (3, .ref (ad (72 + (24 * b + (Int32.toNatClampNeg p0))))), (0, .ref (ad (38 + b))), (1, .int p0), (2, .int p1)]) hx hb dX0_candidates_165 hl (k := 4) rfl (by rw [ez78]; rfl) (by decide) rfl (fun ls hl => ?_)
                      refine lv_goto (tgt := 40) hx hb dX0_candidates_168 (by decide) ?_
                      have r79 : Int32.toInt 1 = 1 := by decide
                      exact ihlp11 z78 (V 53 (24 * b + (Int32.toNatClampNeg y8))) z77 H locs ls (by (first | exact om_ebd92ed44179 klp11_0.1 r13.2 r14 f17 hz78 | omega)) (by (first | exact om_8a0dcf576dcd hz77.1 hz77.2 | omega)) (by (first | exact om_9592d9319ffa hn hz78 | omega)) hP hD hS (lv_sub hl [0, 2, 1, 5, 6, 7, 8, 9, 10, 11] rfl)
            · skip
              have f80 : z29.toInt = 0 := b_eq rfl (by decide) c32
              refine lv_goto (tgt := 165) hx hb dX0_candidates_111 (by decide) ?_
              obtain ⟨z81, ez81⟩ : ∃ y : Int32, y = y8 + 1 := ⟨_, rfl⟩
              have hz81 : z81.toInt = y8.toInt + 1 := i_add ez81 rfl (by decide) (by (first | exact om_c7103e519a6e klp11_0.1 r13.2 r14 f17 | omega))
              refine lv_iinc (v := z81) (lv' := [(9, .int z81), (11, .int 1), (10, .ref (ad (72 + (24 * b + (Int32.toNatClampNeg y8))))), (8, .int y9), (7, .int y10), (6, .int (V 59 (8 * (24 * b + (Int32.toNatClampNeg p0)) + (Int32.toNatClampNeg p1)))), (5, .int (V 58 (8 * (24 * b + (Int32.toNatClampNeg p0)) + (Int32.toNatClampNeg p1)))), (4, .int (V 60 (8 * (24 * b + (Int32.toNatClampNeg p0)) + (Int32.toNatClampNeg p1)))), (3, .ref (ad (72 + (24 * b + (Int32.toNatClampNeg p0))))), (0, .ref (ad (38 + b))), (1, .int p0), (2, .int p1)]) hx hb dX0_candidates_165 hl (k := 2) rfl (by rw [ez81]; rfl) (by decide) rfl (fun ls hl => ?_)
              refine lv_goto (tgt := 40) hx hb dX0_candidates_168 (by decide) ?_
              have r82 : Int32.toInt 1 = 1 := by decide
              exact ihlp11 z81 y9 y10 H locs ls (by (first | exact om_ebd92ed44179 klp11_0.1 r13.2 r14 f17 hz81 | omega)) (by (first | exact om_c51a6401fccc klp11_1.1 klp11_1.2 | omega)) (by (first | exact om_9592d9319ffa hn hz81 | omega)) hP hD hS (lv_sub hl [0, 3, 4, 5, 6, 7, 8, 9, 10, 11] rfl)
        · skip
          have f83 : ((V 59 (8 * (24 * b + (Int32.toNatClampNeg p0)) + (Int32.toNatClampNeg p1)))).toInt ≠ (-1) := b_neq rfl (by decide) c20
          refine lv_aload hx hb dX0_candidates_67 (lv_at hl 0 rfl) ?_
          refine va_getN (D := D) (ci := 3) (v := .int (V 52 (24 * b + (Int32.toNatClampNeg y8)))) (fs := (xfComp ad V (24 * b + (Int32.toNatClampNeg y8)))) (C := RX3) (T := TX3) (N := 13) hx hb hg inX3 hown hK hP (72 + (24 * b + (Int32.toNatClampNeg y8))) (xgComp il19) rfl 7 (by decide) (hnw.use 525 n525 rfl) (fun _ h9 => h9) rfl dX0_candidates_69 ?_
          refine lv_iload hx hb dX0_candidates_72 (lv_at hl 4 rfl) ?_
          refine lv_icmp_ne (tgt := 81) hx hb dX0_candidates_74 (by decide) (fun c84 => ?_) (fun c84 => ?_)
          · skip
            have f85 : ((V 52 (24 * b + (Int32.toNatClampNeg y8)))).toInt ≠ ((V 59 (8 * (24 * b + (Int32.toNatClampNeg p0)) + (Int32.toNatClampNeg p1)))).toInt := b_neq rfl rfl c84
            refine lv_iconst (v := 0) hx hb dX0_candidates_81 (by decide) ?_
            refine lv_istore (lv' := [(11, .int 0), (10, .ref (ad (72 + (24 * b + (Int32.toNatClampNeg y8))))), (9, .int y8), (8, .int y9), (7, .int y10), (6, .int (V 59 (8 * (24 * b + (Int32.toNatClampNeg p0)) + (Int32.toNatClampNeg p1)))), (5, .int (V 58 (8 * (24 * b + (Int32.toNatClampNeg p0)) + (Int32.toNatClampNeg p1)))), (4, .int (V 60 (8 * (24 * b + (Int32.toNatClampNeg p0)) + (Int32.toNatClampNeg p1)))), (3, .ref (ad (72 + (24 * b + (Int32.toNatClampNeg p0))))), (0, .ref (ad (38 + b))), (1, .int p0), (2, .int p1)]) hx hb dX0_candidates_82 hl (by decide) rfl (fun ls hl => ?_)
            refine lv_aload hx hb dX0_candidates_84 (lv_at hl 1 rfl) ?_
            refine va_getN (D := D) (ci := 3) (v := .int (V 50 (24 * b + (Int32.toNatClampNeg y8)))) (fs := (xfComp ad V (24 * b + (Int32.toNatClampNeg y8)))) (C := RX3) (T := TX3) (N := 13) hx hb hg inX3 hown hK hP (72 + (24 * b + (Int32.toNatClampNeg y8))) (xgComp il19) rfl 5 (by decide) (hnw.use 517 n517 rfl) (fun _ h9 => h9) rfl dX0_candidates_86 ?_
            refine lv_iload hx hb dX0_candidates_89 (lv_at hl 6 rfl) ?_
            refine lv_ishr hx hb dX0_candidates_91 ?_
            refine lv_topi (fun z86 ez86 => ?_)
            refine lv_iconst (v := 1) hx hb dX0_candidates_92 (by decide) ?_
            refine lv_iand hx hb dX0_candidates_93 ?_
            refine lv_topi (fun z87 ez87 => ?_)
            have hz87 : 0 ≤ z87.toInt ∧ z87.toInt ≤ 1 := and_m ez87 (by decide)
            refine lv_if_eq (tgt := 165) hx hb dX0_candidates_94 (by decide) (fun c88 => ?_) (fun c88 => ?_)
            · skip
              have f89 : z87.toInt = 0 := b_eq rfl (by decide) c88
              obtain ⟨z90, ez90⟩ : ∃ y : Int32, y = y8 + 1 := ⟨_, rfl⟩
              have hz90 : z90.toInt = y8.toInt + 1 := i_add ez90 rfl (by decide) (by (first | exact om_c7103e519a6e klp11_0.1 r13.2 r14 f17 | omega))
              refine lv_iinc (v := z90) (lv' := [(9, .int z90), (11, .int 0), (10, .ref (ad (72 + (24 * b + (Int32.toNatClampNeg y8))))), (8, .int y9), (7, .int y10), (6, .int (V 59 (8 * (24 * b + (Int32.toNatClampNeg p0)) + (Int32.toNatClampNeg p1)))), (5, .int (V 58 (8 * (24 * b + (Int32.toNatClampNeg p0)) + (Int32.toNatClampNeg p1)))), (4, .int (V 60 (8 * (24 * b + (Int32.toNatClampNeg p0)) + (Int32.toNatClampNeg p1)))), (3, .ref (ad (72 + (24 * b + (Int32.toNatClampNeg p0))))), (0, .ref (ad (38 + b))), (1, .int p0), (2, .int p1)]) hx hb dX0_candidates_165 hl (k := 2) rfl (by rw [ez90]; rfl) (by decide) rfl (fun ls hl => ?_)
              refine lv_goto (tgt := 40) hx hb dX0_candidates_168 (by decide) ?_
              have r91 : Int32.toInt 0 = 0 := by decide
              exact ihlp11 z90 y9 y10 H locs ls (by (first | exact om_ebd92ed44179 klp11_0.1 r13.2 r14 f17 hz90 | omega)) (by (first | exact om_c51a6401fccc klp11_1.1 klp11_1.2 | omega)) (by (first | exact om_9592d9319ffa hn hz90 | omega)) hP hD hS (lv_sub hl [0, 3, 4, 5, 6, 7, 8, 9, 10, 11] rfl)
            · skip
              have f92 : z87.toInt ≠ 0 := b_neq rfl (by decide) c88
              refine lv_iload hx hb dX0_candidates_97 (lv_at hl 0 rfl) ?_
              refine lv_if_eq (tgt := 165) hx hb dX0_candidates_99 (by decide) (fun _ => ?_) (fun q => absurd (by decide) q)
              obtain ⟨z93, ez93⟩ : ∃ y : Int32, y = y8 + 1 := ⟨_, rfl⟩
              have hz93 : z93.toInt = y8.toInt + 1 := i_add ez93 rfl (by decide) (by (first | exact om_c7103e519a6e klp11_0.1 r13.2 r14 f17 | omega))
              refine lv_iinc (v := z93) (lv' := [(9, .int z93), (11, .int 0), (10, .ref (ad (72 + (24 * b + (Int32.toNatClampNeg y8))))), (8, .int y9), (7, .int y10), (6, .int (V 59 (8 * (24 * b + (Int32.toNatClampNeg p0)) + (Int32.toNatClampNeg p1)))), (5, .int (V 58 (8 * (24 * b + (Int32.toNatClampNeg p0)) + (Int32.toNatClampNeg p1)))), (4, .int (V 60 (8 * (24 * b + (Int32.toNatClampNeg p0)) + (Int32.toNatClampNeg p1)))), (3, .ref (ad (72 + (24 * b + (Int32.toNatClampNeg p0))))), (0, .ref (ad (38 + b))), (1, .int p0), (2, .int p1)]) hx hb dX0_candidates_165 hl (k := 2) rfl (by rw [ez93]; rfl) (by decide) rfl (fun ls hl => ?_)
              refine lv_goto (tgt := 40) hx hb dX0_candidates_168 (by decide) ?_
              have r94 : Int32.toInt 0 = 0 := by decide
              exact ihlp11 z93 y9 y10 H locs ls (by (first | exact om_ebd92ed44179 klp11_0.1 r13.2 r14 f17 hz93 | omega)) (by (first | exact om_c51a6401fccc klp11_1.1 klp11_1.2 | omega)) (by (first | exact om_9592d9319ffa hn hz93 | omega)) hP hD hS (lv_sub hl [0, 3, 4, 5, 6, 7, 8, 9, 10, 11] rfl)
          · skip
            have f95 : ((V 52 (24 * b + (Int32.toNatClampNeg y8)))).toInt = ((V 59 (8 * (24 * b + (Int32.toNatClampNeg p0)) + (Int32.toNatClampNeg p1)))).toInt := b_eq rfl rfl c84
            refine lv_iconst (v := 1) hx hb dX0_candidates_77 (by decide) ?_
            refine lv_goto (tgt := 82) hx hb dX0_candidates_78 (by decide) ?_
            refine lv_istore (lv' := [(11, .int 1), (10, .ref (ad (72 + (24 * b + (Int32.toNatClampNeg y8))))), (9, .int y8), (8, .int y9), (7, .int y10), (6, .int (V 59 (8 * (24 * b + (Int32.toNatClampNeg p0)) + (Int32.toNatClampNeg p1)))), (5, .int (V 58 (8 * (24 * b + (Int32.toNatClampNeg p0)) + (Int32.toNatClampNeg p1)))), (4, .int (V 60 (8 * (24 * b + (Int32.toNatClampNeg p0)) + (Int32.toNatClampNeg p1)))), (3, .ref (ad (72 + (24 * b + (Int32.toNatClampNeg p0))))), (0, .ref (ad (38 + b))), (1, .int p0), (2, .int p1)]) hx hb dX0_candidates_82 hl (by decide) rfl (fun ls hl => ?_)
            refine lv_aload hx hb dX0_candidates_84 (lv_at hl 1 rfl) ?_
            refine va_getN (D := D) (ci := 3) (v := .int (V 50 (24 * b + (Int32.toNatClampNeg y8)))) (fs := (xfComp ad V (24 * b + (Int32.toNatClampNeg y8)))) (C := RX3) (T := TX3) (N := 13) hx hb hg inX3 hown hK hP (72 + (24 * b + (Int32.toNatClampNeg y8))) (xgComp il19) rfl 5 (by decide) (hnw.use 517 n517 rfl) (fun _ h9 => h9) rfl dX0_candidates_86 ?_
            refine lv_iload hx hb dX0_candidates_89 (lv_at hl 6 rfl) ?_
            refine lv_ishr hx hb dX0_candidates_91 ?_
            refine lv_topi (fun z96 ez96 => ?_)
            refine lv_iconst (v := 1) hx hb dX0_candidates_92 (by decide) ?_
            refine lv_iand hx hb dX0_candidates_93 ?_
            refine lv_topi (fun z97 ez97 => ?_)
            have hz97 : 0 ≤ z97.toInt ∧ z97.toInt ≤ 1 := and_m ez97 (by decide)
            refine lv_if_eq (tgt := 165) hx hb dX0_candidates_94 (by decide) (fun c98 => ?_) (fun c98 => ?_)
            · skip
              have f99 : z97.toInt = 0 := b_eq rfl (by decide) c98
              obtain ⟨z100, ez100⟩ : ∃ y : Int32, y = y8 + 1 := ⟨_, rfl⟩
              have hz100 : z100.toInt = y8.toInt + 1 := i_add ez100 rfl (by decide) (by (first | exact om_c7103e519a6e klp11_0.1 r13.2 r14 f17 | omega))
              refine lv_iinc (v := z100) (lv' := [(9, .int z100), (11, .int 1), (10, .ref (ad (72 + (24 * b + (Int32.toNatClampNeg y8))))), (8, .int y9), (7, .int y10), (6, .int (V 59 (8 * (24 * b + (Int32.toNatClampNeg p0)) + (Int32.toNatClampNeg p1)))), (5, .int (V 58 (8 * (24 * b + (Int32.toNatClampNeg p0)) + (Int32.toNatClampNeg p1)))), (4, .int (V 60 (8 * (24 * b + (Int32.toNatClampNeg p0)) + (Int32.toNatClampNeg p1)))), (3, .ref (ad (72 + (24 * b + (Int32.toNatClampNeg p0))))), (0, .ref (ad (38 + b))), (1, .int p0), (2, .int p1)]) hx hb dX0_candidates_165 hl (k := 2) rfl (by rw [ez100]; rfl) (by decide) rfl (fun ls hl => ?_)
              refine lv_goto (tgt := 40) hx hb dX0_candidates_168 (by decide) ?_
              have r101 : Int32.toInt 1 = 1 := by decide
              exact ihlp11 z100 y9 y10 H locs ls (by (first | exact om_ebd92ed44179 klp11_0.1 r13.2 r14 f17 hz100 | omega)) (by (first | exact om_c51a6401fccc klp11_1.1 klp11_1.2 | omega)) (by (first | exact om_9592d9319ffa hn hz100 | omega)) hP hD hS (lv_sub hl [0, 3, 4, 5, 6, 7, 8, 9, 10, 11] rfl)
            · skip
              have f102 : z97.toInt ≠ 0 := b_neq rfl (by decide) c98
              refine lv_iload hx hb dX0_candidates_97 (lv_at hl 0 rfl) ?_
              refine lv_if_eq (tgt := 165) hx hb dX0_candidates_99 (by decide) (fun q => absurd q (by decide)) (fun _ => ?_)
              refine lv_aload_n hx hb dX0_candidates_102 rfl (lv_at hl 9 rfl) ?_
              refine lv_iload hx hb dX0_candidates_103 (lv_at hl 2 rfl) ?_
              refine gA_int (gA_runV (As := [.int y8]) (rest := []) (ci := 0) (q0 := (38 + b)) hx hb hml hown hg hP hD hK hS hA hnw hgk (x_isThere l D ks H.size ad kk V L Z y8 (b) hMV (by (first | exact om_5ea855d61ca3 klp11_0.1 r13.2 r14 f17 | omega)) (show b < 2 from by (first | exact om_f940a4667dd6 hb2 | omega))) w1085 w1070 w1071 w167 w1072 rfl (xgBook hb2) hdV_yX0_isThere ⟨Nat.le_of_ble_eq_true rfl, Nat.le_of_ble_eq_true rfl⟩ rfl hl.1 rfl (Nat.le_of_ble_eq_true rfl) dX0_candidates_105 ⟨Nat.le_of_ble_eq_true rfl, Nat.le_of_ble_eq_true rfl⟩) hP hD hK hS hA (fun z103 u104 H locs w105 hP hD hK hS => ?_)
              have rgz103 := w105
              have rgz103 : 0 ≤ z103.toInt ∧ z103.toInt ≤ 1 := rgz103
              refine lv_if_ne (tgt := 114) hx hb dX0_candidates_108 (by decide) (fun c106 => ?_) (fun c106 => ?_)
              · skip
                have f107 : z103.toInt ≠ 0 := b_neq rfl (by decide) c106
                refine lv_iload hx hb dX0_candidates_114 (lv_at hl 7 rfl) ?_
                refine lv_iconst (v := 2) hx hb dX0_candidates_116 (by decide) ?_
                refine lv_icmp_eq (tgt := 140) hx hb dX0_candidates_117 (by decide) (fun c108 => ?_) (fun c108 => ?_)
                · skip
                  have f109 : ((V 60 (8 * (24 * b + (Int32.toNatClampNeg p0)) + (Int32.toNatClampNeg p1)))).toInt = 2 := b_eq rfl (by decide) c108
                  refine lv_iload hx hb dX0_candidates_140 (lv_at hl 7 rfl) ?_
                  refine lv_iconst (v := 2) hx hb dX0_candidates_142 (by decide) ?_
                  refine lv_icmp_eq (tgt := 156) hx hb dX0_candidates_143 (by decide) (fun c110 => ?_) (fun c110 => ?_)
                  · skip
                    have f111 : ((V 60 (8 * (24 * b + (Int32.toNatClampNeg p0)) + (Int32.toNatClampNeg p1)))).toInt = 2 := b_eq rfl (by decide) c110
                    refine lv_iload hx hb dX0_candidates_156 (lv_at hl 4 rfl) ?_
                    refine lv_iconst (v := 1) hx hb dX0_candidates_158 (by decide) ?_
                    refine lv_iload hx hb dX0_candidates_159 (lv_at hl 2 rfl) ?_
                    refine lv_ishl hx hb dX0_candidates_161 ?_
                    refine lv_topi (fun z112 ez112 => ?_)
                    have hz112 : 0 ≤ z112.toInt ∧ z112.toInt < 16777216 := shl1 ez112 (by omega)
                    refine lv_ior hx hb dX0_candidates_162 ?_
                    refine lv_topi (fun z113 ez113 => ?_)
                    have hz113 : 0 ≤ z113.toInt ∧ z113.toInt < 16777216 := or24 ez113 (by omega) (by omega)
                    refine lv_istore (lv' := [(7, .int z113), (11, .int 1), (10, .ref (ad (72 + (24 * b + (Int32.toNatClampNeg y8))))), (9, .int y8), (8, .int y9), (6, .int (V 59 (8 * (24 * b + (Int32.toNatClampNeg p0)) + (Int32.toNatClampNeg p1)))), (5, .int (V 58 (8 * (24 * b + (Int32.toNatClampNeg p0)) + (Int32.toNatClampNeg p1)))), (4, .int (V 60 (8 * (24 * b + (Int32.toNatClampNeg p0)) + (Int32.toNatClampNeg p1)))), (3, .ref (ad (72 + (24 * b + (Int32.toNatClampNeg p0))))), (0, .ref (ad (38 + b))), (1, .int p0), (2, .int p1)]) hx hb dX0_candidates_163 hl (by decide) rfl (fun ls hl => ?_)
                    obtain ⟨z114, ez114⟩ : ∃ y : Int32, y = y8 + 1 := ⟨_, rfl⟩
                    have hz114 : z114.toInt = y8.toInt + 1 := i_add ez114 rfl (by decide) (by (first | exact om_c7103e519a6e klp11_0.1 r13.2 r14 f17 | omega))
                    refine lv_iinc (v := z114) (lv' := [(9, .int z114), (7, .int z113), (11, .int 1), (10, .ref (ad (72 + (24 * b + (Int32.toNatClampNeg y8))))), (8, .int y9), (6, .int (V 59 (8 * (24 * b + (Int32.toNatClampNeg p0)) + (Int32.toNatClampNeg p1)))), (5, .int (V 58 (8 * (24 * b + (Int32.toNatClampNeg p0)) + (Int32.toNatClampNeg p1)))), (4, .int (V 60 (8 * (24 * b + (Int32.toNatClampNeg p0)) + (Int32.toNatClampNeg p1)))), (3, .ref (ad (72 + (24 * b + (Int32.toNatClampNeg p0))))), (0, .ref (ad (38 + b))), (1, .int p0), (2, .int p1)]) hx hb dX0_candidates_165 hl (k := 3) rfl (by rw [ez114]; rfl) (by decide) rfl (fun ls hl => ?_)
                    refine lv_goto (tgt := 40) hx hb dX0_candidates_168 (by decide) ?_
                    have r115 : Int32.toInt 1 = 1 := by decide
                    exact ihlp11 z114 y9 z113 H locs ls (by (first | exact om_ebd92ed44179 klp11_0.1 r13.2 r14 f17 hz114 | omega)) (by (first | exact om_8a0dcf576dcd hz113.1 hz113.2 | omega)) (by (first | exact om_9592d9319ffa hn hz114 | omega)) hP hD hS (lv_sub hl [0, 4, 1, 5, 6, 7, 8, 9, 10, 11] rfl)
                  · skip
                    have f116 : ((V 60 (8 * (24 * b + (Int32.toNatClampNeg p0)) + (Int32.toNatClampNeg p1)))).toInt ≠ 2 := b_neq rfl (by decide) c110
                    exfalso; (first | exact om_da4eef675bfb f109 f116 | omega)
                · skip
                  have f117 : ((V 60 (8 * (24 * b + (Int32.toNatClampNeg p0)) + (Int32.toNatClampNeg p1)))).toInt ≠ 2 := b_neq rfl (by decide) c108
                  refine lv_aload hx hb dX0_candidates_120 (lv_at hl 1 rfl) ?_
                  refine va_getN (D := D) (ci := 3) (v := .int (V 53 (24 * b + (Int32.toNatClampNeg y8)))) (fs := (xfComp ad V (24 * b + (Int32.toNatClampNeg y8)))) (C := RX3) (T := TX3) (N := 13) hx hb hg inX3 hown hK hP (72 + (24 * b + (Int32.toNatClampNeg y8))) (xgComp il19) rfl 8 (by decide) (hnw.use 529 n529 rfl) (fun _ h9 => h9) rfl dX0_candidates_122 ?_
                  refine lv_iload hx hb dX0_candidates_125 (lv_at hl 3 rfl) ?_
                  refine lv_icmp_le (tgt := 140) hx hb dX0_candidates_127 (by decide) (fun c118 => ?_) (fun c118 => ?_)
                  · skip
                    have f119 : ((V 53 (24 * b + (Int32.toNatClampNeg y8)))).toInt ≤ y9.toInt := b_le rfl rfl c118
                    refine lv_iload hx hb dX0_candidates_140 (lv_at hl 7 rfl) ?_
                    refine lv_iconst (v := 2) hx hb dX0_candidates_142 (by decide) ?_
                    refine lv_icmp_eq (tgt := 156) hx hb dX0_candidates_143 (by decide) (fun c120 => ?_) (fun c120 => ?_)
                    · skip
                      have f121 : ((V 60 (8 * (24 * b + (Int32.toNatClampNeg p0)) + (Int32.toNatClampNeg p1)))).toInt = 2 := b_eq rfl (by decide) c120
                      refine lv_iload hx hb dX0_candidates_156 (lv_at hl 4 rfl) ?_
                      refine lv_iconst (v := 1) hx hb dX0_candidates_158 (by decide) ?_
                      refine lv_iload hx hb dX0_candidates_159 (lv_at hl 2 rfl) ?_
                      refine lv_ishl hx hb dX0_candidates_161 ?_
                      refine lv_topi (fun z122 ez122 => ?_)
                      have hz122 : 0 ≤ z122.toInt ∧ z122.toInt < 16777216 := shl1 ez122 (by omega)
                      refine lv_ior hx hb dX0_candidates_162 ?_
                      refine lv_topi (fun z123 ez123 => ?_)
                      have hz123 : 0 ≤ z123.toInt ∧ z123.toInt < 16777216 := or24 ez123 (by omega) (by omega)
                      refine lv_istore (lv' := [(7, .int z123), (11, .int 1), (10, .ref (ad (72 + (24 * b + (Int32.toNatClampNeg y8))))), (9, .int y8), (8, .int y9), (6, .int (V 59 (8 * (24 * b + (Int32.toNatClampNeg p0)) + (Int32.toNatClampNeg p1)))), (5, .int (V 58 (8 * (24 * b + (Int32.toNatClampNeg p0)) + (Int32.toNatClampNeg p1)))), (4, .int (V 60 (8 * (24 * b + (Int32.toNatClampNeg p0)) + (Int32.toNatClampNeg p1)))), (3, .ref (ad (72 + (24 * b + (Int32.toNatClampNeg p0))))), (0, .ref (ad (38 + b))), (1, .int p0), (2, .int p1)]) hx hb dX0_candidates_163 hl (by decide) rfl (fun ls hl => ?_)
                      obtain ⟨z124, ez124⟩ : ∃ y : Int32, y = y8 + 1 := ⟨_, rfl⟩
                      have hz124 : z124.toInt = y8.toInt + 1 := i_add ez124 rfl (by decide) (by omega)
                      refine lv_iinc (v := z124) (lv' := [(9, .int z124), (7, .int z123), (11, .int 1), (10, .ref (ad (72 + (24 * b + (Int32.toNatClampNeg y8))))), (8, .int y9), (6, .int (V 59 (8 * (24 * b + (Int32.toNatClampNeg p0)) + (Int32.toNatClampNeg p1)))), (5, .int (V 58 (8 * (24 * b + (Int32.toNatClampNeg p0)) + (Int32.toNatClampNeg p1)))), (4, .int (V 60 (8 * (24 * b + (Int32.toNatClampNeg p0)) + (Int32.toNatClampNeg p1)))), (3, .ref (ad (72 + (24 * b + (Int32.toNatClampNeg p0))))), (0, .ref (ad (38 + b))), (1, .int p0), (2, .int p1)]) hx hb dX0_candidates_165 hl (k := 3) rfl (by rw [ez124]; rfl) (by decide) rfl (fun ls hl => ?_)
                      refine lv_goto (tgt := 40) hx hb dX0_candidates_168 (by decide) ?_
                      have r125 : Int32.toInt 1 = 1 := by decide
                      exact ihlp11 z124 y9 z123 H locs ls (by omega) (by omega) (by omega) hP hD hS (lv_sub hl [0, 4, 1, 5, 6, 7, 8, 9, 10, 11] rfl)
                    · skip
                      have f126 : ((V 60 (8 * (24 * b + (Int32.toNatClampNeg p0)) + (Int32.toNatClampNeg p1)))).toInt ≠ 2 := b_neq rfl (by decide) c120
                      refine lv_aload hx hb dX0_candidates_146 (lv_at hl 1 rfl) ?_
                      refine va_getN (D := D) (ci := 3) (v := .int (V 53 (24 * b + (Int32.toNatClampNeg y8)))) (fs := (xfComp ad V (24 * b + (Int32.toNatClampNeg y8)))) (C := RX3) (T := TX3) (N := 13) hx hb hg inX3 hown hK hP (72 + (24 * b + (Int32.toNatClampNeg y8))) (xgComp il19) rfl 8 (by decide) (hnw.use 529 n529 rfl) (fun _ h9 => h9) rfl dX0_candidates_148 ?_
                      refine lv_iload hx hb dX0_candidates_151 (lv_at hl 3 rfl) ?_
                      refine lv_icmp_ne (tgt := 165) hx hb dX0_candidates_153 (by decide) (fun c127 => ?_) (fun c127 => ?_)
                      · skip
                        have f128 : ((V 53 (24 * b + (Int32.toNatClampNeg y8)))).toInt ≠ y9.toInt := b_neq rfl rfl c127
                        obtain ⟨z129, ez129⟩ : ∃ y : Int32, y = y8 + 1 := ⟨_, rfl⟩
                        have hz129 : z129.toInt = y8.toInt + 1 := i_add ez129 rfl (by decide) (by (first | exact om_c7103e519a6e klp11_0.1 r13.2 r14 f17 | omega))
                        refine lv_iinc (v := z129) (lv' := [(9, .int z129), (11, .int 1), (10, .ref (ad (72 + (24 * b + (Int32.toNatClampNeg y8))))), (8, .int y9), (7, .int y10), (6, .int (V 59 (8 * (24 * b + (Int32.toNatClampNeg p0)) + (Int32.toNatClampNeg p1)))), (5, .int (V 58 (8 * (24 * b + (Int32.toNatClampNeg p0)) + (Int32.toNatClampNeg p1)))), (4, .int (V 60 (8 * (24 * b + (Int32.toNatClampNeg p0)) + (Int32.toNatClampNeg p1)))), (3, .ref (ad (72 + (24 * b + (Int32.toNatClampNeg p0))))), (0, .ref (ad (38 + b))), (1, .int p0), (2, .int p1)]) hx hb dX0_candidates_165 hl (k := 2) rfl (by rw [ez129]; rfl) (by decide) rfl (fun ls hl => ?_)
                        refine lv_goto (tgt := 40) hx hb dX0_candidates_168 (by decide) ?_
                        have r130 : Int32.toInt 1 = 1 := by decide
                        exact ihlp11 z129 y9 y10 H locs ls (by (first | exact om_ebd92ed44179 klp11_0.1 r13.2 r14 f17 hz129 | omega)) (by (first | exact om_c51a6401fccc klp11_1.1 klp11_1.2 | omega)) (by (first | exact om_9592d9319ffa hn hz129 | omega)) hP hD hS (lv_sub hl [0, 3, 4, 5, 6, 7, 8, 9, 10, 11] rfl)
                      · skip
                        have f131 : ((V 53 (24 * b + (Int32.toNatClampNeg y8)))).toInt = y9.toInt := b_eq rfl rfl c127
                        refine lv_iload hx hb dX0_candidates_156 (lv_at hl 4 rfl) ?_
                        refine lv_iconst (v := 1) hx hb dX0_candidates_158 (by decide) ?_
                        refine lv_iload hx hb dX0_candidates_159 (lv_at hl 2 rfl) ?_
                        refine lv_ishl hx hb dX0_candidates_161 ?_
                        refine lv_topi (fun z132 ez132 => ?_)
                        have hz132 : 0 ≤ z132.toInt ∧ z132.toInt < 16777216 := shl1 ez132 (by omega)
                        refine lv_ior hx hb dX0_candidates_162 ?_
                        refine lv_topi (fun z133 ez133 => ?_)
                        have hz133 : 0 ≤ z133.toInt ∧ z133.toInt < 16777216 := or24 ez133 (by omega) (by omega)
                        refine lv_istore (lv' := [(7, .int z133), (11, .int 1), (10, .ref (ad (72 + (24 * b + (Int32.toNatClampNeg y8))))), (9, .int y8), (8, .int y9), (6, .int (V 59 (8 * (24 * b + (Int32.toNatClampNeg p0)) + (Int32.toNatClampNeg p1)))), (5, .int (V 58 (8 * (24 * b + (Int32.toNatClampNeg p0)) + (Int32.toNatClampNeg p1)))), (4, .int (V 60 (8 * (24 * b + (Int32.toNatClampNeg p0)) + (Int32.toNatClampNeg p1)))), (3, .ref (ad (72 + (24 * b + (Int32.toNatClampNeg p0))))), (0, .ref (ad (38 + b))), (1, .int p0), (2, .int p1)]) hx hb dX0_candidates_163 hl (by decide) rfl (fun ls hl => ?_)
                        obtain ⟨z134, ez134⟩ : ∃ y : Int32, y = y8 + 1 := ⟨_, rfl⟩
                        have hz134 : z134.toInt = y8.toInt + 1 := i_add ez134 rfl (by decide) (by (first | exact om_c7103e519a6e klp11_0.1 r13.2 r14 f17 | omega))
                        refine lv_iinc (v := z134) (lv' := [(9, .int z134), (7, .int z133), (11, .int 1), (10, .ref (ad (72 + (24 * b + (Int32.toNatClampNeg y8))))), (8, .int y9), (6, .int (V 59 (8 * (24 * b + (Int32.toNatClampNeg p0)) + (Int32.toNatClampNeg p1)))), (5, .int (V 58 (8 * (24 * b + (Int32.toNatClampNeg p0)) + (Int32.toNatClampNeg p1)))), (4, .int (V 60 (8 * (24 * b + (Int32.toNatClampNeg p0)) + (Int32.toNatClampNeg p1)))), (3, .ref (ad (72 + (24 * b + (Int32.toNatClampNeg p0))))), (0, .ref (ad (38 + b))), (1, .int p0), (2, .int p1)]) hx hb dX0_candidates_165 hl (k := 3) rfl (by rw [ez134]; rfl) (by decide) rfl (fun ls hl => ?_)
                        refine lv_goto (tgt := 40) hx hb dX0_candidates_168 (by decide) ?_
                        have r135 : Int32.toInt 1 = 1 := by decide
                        exact ihlp11 z134 y9 z133 H locs ls (by (first | exact om_ebd92ed44179 klp11_0.1 r13.2 r14 f17 hz134 | omega)) (by (first | exact om_8a0dcf576dcd hz133.1 hz133.2 | omega)) (by (first | exact om_9592d9319ffa hn hz134 | omega)) hP hD hS (lv_sub hl [0, 4, 1, 5, 6, 7, 8, 9, 10, 11] rfl)
                  · skip
                    have f136 : y9.toInt < ((V 53 (24 * b + (Int32.toNatClampNeg y8)))).toInt := b_nle rfl rfl c118
                    refine lv_aload hx hb dX0_candidates_130 (lv_at hl 1 rfl) ?_
                    refine va_getN (D := D) (ci := 3) (v := .int (V 53 (24 * b + (Int32.toNatClampNeg y8)))) (fs := (xfComp ad V (24 * b + (Int32.toNatClampNeg y8)))) (C := RX3) (T := TX3) (N := 13) hx hb hg inX3 hown hK hP (72 + (24 * b + (Int32.toNatClampNeg y8))) (xgComp il19) rfl 8 (by decide) (hnw.use 529 n529 rfl) (fun _ h9 => h9) rfl dX0_candidates_132 ?_
                    refine lv_istore (lv' := [(8, .int (V 53 (24 * b + (Int32.toNatClampNeg y8)))), (11, .int 1), (10, .ref (ad (72 + (24 * b + (Int32.toNatClampNeg y8))))), (9, .int y8), (7, .int y10), (6, .int (V 59 (8 * (24 * b + (Int32.toNatClampNeg p0)) + (Int32.toNatClampNeg p1)))), (5, .int (V 58 (8 * (24 * b + (Int32.toNatClampNeg p0)) + (Int32.toNatClampNeg p1)))), (4, .int (V 60 (8 * (24 * b + (Int32.toNatClampNeg p0)) + (Int32.toNatClampNeg p1)))), (3, .ref (ad (72 + (24 * b + (Int32.toNatClampNeg p0))))), (0, .ref (ad (38 + b))), (1, .int p0), (2, .int p1)]) hx hb dX0_candidates_135 hl (by decide) rfl (fun ls hl => ?_)
                    refine lv_iconst (v := 0) hx hb dX0_candidates_137 (by decide) ?_
                    refine lv_istore (lv' := [(7, .int 0), (8, .int (V 53 (24 * b + (Int32.toNatClampNeg y8)))), (11, .int 1), (10, .ref (ad (72 + (24 * b + (Int32.toNatClampNeg y8))))), (9, .int y8), (6, .int (V 59 (8 * (24 * b + (Int32.toNatClampNeg p0)) + (Int32.toNatClampNeg p1)))), (5, .int (V 58 (8 * (24 * b + (Int32.toNatClampNeg p0)) + (Int32.toNatClampNeg p1)))), (4, .int (V 60 (8 * (24 * b + (Int32.toNatClampNeg p0)) + (Int32.toNatClampNeg p1)))), (3, .ref (ad (72 + (24 * b + (Int32.toNatClampNeg p0))))), (0, .ref (ad (38 + b))), (1, .int p0), (2, .int p1)]) hx hb dX0_candidates_138 hl (by decide) rfl (fun ls hl => ?_)
                    refine lv_iload hx hb dX0_candidates_140 (lv_at hl 7 rfl) ?_
                    refine lv_iconst (v := 2) hx hb dX0_candidates_142 (by decide) ?_
                    refine lv_icmp_eq (tgt := 156) hx hb dX0_candidates_143 (by decide) (fun c137 => ?_) (fun c137 => ?_)
                    · skip
                      have f138 : ((V 60 (8 * (24 * b + (Int32.toNatClampNeg p0)) + (Int32.toNatClampNeg p1)))).toInt = 2 := b_eq rfl (by decide) c137
                      refine lv_iload hx hb dX0_candidates_156 (lv_at hl 0 rfl) ?_
                      refine lv_iconst (v := 1) hx hb dX0_candidates_158 (by decide) ?_
                      refine lv_iload hx hb dX0_candidates_159 (lv_at hl 4 rfl) ?_
                      refine lv_ishl hx hb dX0_candidates_161 ?_
                      refine lv_topi (fun z139 ez139 => ?_)
                      have hz139 : 0 ≤ z139.toInt ∧ z139.toInt < 16777216 := shl1 ez139 (by omega)
                      refine lv_ior hx hb dX0_candidates_162 ?_
                      refine lv_topi (fun z140 ez140 => ?_)
                      have hz140 : 0 ≤ z140.toInt ∧ z140.toInt < 16777216 := or24 ez140 (by decide) (by omega)
                      refine lv_istore (lv' := [(7, .int z140), (8, .int (V 53 (24 * b + (Int32.toNatClampNeg y8)))), (11, .int 1), (10, .ref (ad (72 + (24 * b + (Int32.toNatClampNeg y8))))), (9, .int y8), (6, .int (V 59 (8 * (24 * b + (Int32.toNatClampNeg p0)) + (Int32.toNatClampNeg p1)))), (5, .int (V 58 (8 * (24 * b + (Int32.toNatClampNeg p0)) + (Int32.toNatClampNeg p1)))), (4, .int (V 60 (8 * (24 * b + (Int32.toNatClampNeg p0)) + (Int32.toNatClampNeg p1)))), (3, .ref (ad (72 + (24 * b + (Int32.toNatClampNeg p0))))), (0, .ref (ad (38 + b))), (1, .int p0), (2, .int p1)]) hx hb dX0_candidates_163 hl (by decide) rfl (fun ls hl => ?_)
                      obtain ⟨z141, ez141⟩ : ∃ y : Int32, y = y8 + 1 := ⟨_, rfl⟩
                      have hz141 : z141.toInt = y8.toInt + 1 := i_add ez141 rfl (by decide) (by omega)
                      refine lv_iinc (v := z141) (lv' := [(9, .int z141), (7, .int z140), (8, .int (V 53 (24 * b + (Int32.toNatClampNeg y8)))), (11, .int 1), (10, .ref (ad (72 + (24 * b + (Int32.toNatClampNeg y8))))), (6, .int (V 59 (8 * (24 * b + (Int32.toNatClampNeg p0)) + (Int32.toNatClampNeg p1)))), (5, .int (V 58 (8 * (24 * b + (Int32.toNatClampNeg p0)) + (Int32.toNatClampNeg p1)))), (4, .int (V 60 (8 * (24 * b + (Int32.toNatClampNeg p0)) + (Int32.toNatClampNeg p1)))), (3, .ref (ad (72 + (24 * b + (Int32.toNatClampNeg p0))))), (0, .ref (ad (38 + b))), (1, .int p0), (2, .int p1)]) hx hb dX0_candidates_165 hl (k := 4) rfl (by rw [ez141]; rfl) (by decide) rfl (fun ls hl => ?_)
                      refine lv_goto (tgt := 40) hx hb dX0_candidates_168 (by decide) ?_
                      have r142 : Int32.toInt 1 = 1 := by decide
                      exact ihlp11 z141 (V 53 (24 * b + (Int32.toNatClampNeg y8))) z140 H locs ls (by omega) (by omega) (by omega) hP hD hS (lv_sub hl [0, 2, 1, 5, 6, 7, 8, 9, 10, 11] rfl)
                    · skip
                      have f143 : ((V 60 (8 * (24 * b + (Int32.toNatClampNeg p0)) + (Int32.toNatClampNeg p1)))).toInt ≠ 2 := b_neq rfl (by decide) c137
                      refine lv_aload hx hb dX0_candidates_146 (lv_at hl 3 rfl) ?_
                      refine va_getN (D := D) (ci := 3) (v := .int (V 53 (24 * b + (Int32.toNatClampNeg y8)))) (fs := (xfComp ad V (24 * b + (Int32.toNatClampNeg y8)))) (C := RX3) (T := TX3) (N := 13) hx hb hg inX3 hown hK hP (72 + (24 * b + (Int32.toNatClampNeg y8))) (xgComp il19) rfl 8 (by decide) (hnw.use 529 n529 rfl) (fun _ h9 => h9) rfl dX0_candidates_148 ?_
                      refine lv_iload hx hb dX0_candidates_151 (lv_at hl 1 rfl) ?_
                      refine lv_icmp_ne (tgt := 165) hx hb dX0_candidates_153 (by decide) (fun c144 => ?_) (fun c144 => ?_)
                      · skip
                        have f145 : ((V 53 (24 * b + (Int32.toNatClampNeg y8)))).toInt ≠ ((V 53 (24 * b + (Int32.toNatClampNeg y8)))).toInt := b_neq rfl rfl c144
                        obtain ⟨z146, ez146⟩ : ∃ y : Int32, y = y8 + 1 := ⟨_, rfl⟩
                        have hz146 : z146.toInt = y8.toInt + 1 := i_add ez146 rfl (by decide) (by (first | exact om_c7103e519a6e klp11_0.1 r13.2 r14 f17 | omega))
                        refine lv_iinc (v := z146) (lv' := [(9, .int z146), (7, .int 0), (8, .int (V 53 (24 * b + (Int32.toNatClampNeg y8)))), (11, .int 1), (10, .ref (ad (72 + (24 * b + (Int32.toNatClampNeg y8))))), (6, .int (V 59 (8 * (24 * b + (Int32.toNatClampNeg p0)) + (Int32.toNatClampNeg p1)))), (5, .int (V 58 (8 * (24 * b + (Int32.toNatClampNeg p0)) + (Int32.toNatClampNeg p1)))), (4, .int (V 60 (8 * (24 * b + (Int32.toNatClampNeg p0)) + (Int32.toNatClampNeg p1)))), (3, .ref (ad (72 + (24 * b + (Int32.toNatClampNeg p0))))), (0, .ref (ad (38 + b))), (1, .int p0), (2, .int p1)]) hx hb dX0_candidates_165 hl (k := 4) rfl (by rw [ez146]; rfl) (by decide) rfl (fun ls hl => ?_)
                        refine lv_goto (tgt := 40) hx hb dX0_candidates_168 (by decide) ?_
                        have r147 : Int32.toInt 0 = 0 := by decide
                        have r148 : Int32.toInt 1 = 1 := by decide
                        exact ihlp11 z146 (V 53 (24 * b + (Int32.toNatClampNeg y8))) 0 H locs ls (by (first | exact om_ebd92ed44179 klp11_0.1 r13.2 r14 f17 hz146 | omega)) (by decide) (by (first | exact om_9592d9319ffa hn hz146 | omega)) hP hD hS (lv_sub hl [0, 2, 1, 5, 6, 7, 8, 9, 10, 11] rfl)
                      · skip
                        have f149 : ((V 53 (24 * b + (Int32.toNatClampNeg y8)))).toInt = ((V 53 (24 * b + (Int32.toNatClampNeg y8)))).toInt := b_eq rfl rfl c144
                        refine lv_iload hx hb dX0_candidates_156 (lv_at hl 0 rfl) ?_
                        refine lv_iconst (v := 1) hx hb dX0_candidates_158 (by decide) ?_
                        refine lv_iload hx hb dX0_candidates_159 (lv_at hl 4 rfl) ?_
                        refine lv_ishl hx hb dX0_candidates_161 ?_
                        refine lv_topi (fun z150 ez150 => ?_)
                        have hz150 : 0 ≤ z150.toInt ∧ z150.toInt < 16777216 := shl1 ez150 (by omega)
                        refine lv_ior hx hb dX0_candidates_162 ?_
                        refine lv_topi (fun z151 ez151 => ?_)
                        have hz151 : 0 ≤ z151.toInt ∧ z151.toInt < 16777216 := or24 ez151 (by decide) (by omega)
                        refine lv_istore (lv' := [(7, .int z151), (8, .int (V 53 (24 * b + (Int32.toNatClampNeg y8)))), (11, .int 1), (10, .ref (ad (72 + (24 * b + (Int32.toNatClampNeg y8))))), (9, .int y8), (6, .int (V 59 (8 * (24 * b + (Int32.toNatClampNeg p0)) + (Int32.toNatClampNeg p1)))), (5, .int (V 58 (8 * (24 * b + (Int32.toNatClampNeg p0)) + (Int32.toNatClampNeg p1)))), (4, .int (V 60 (8 * (24 * b + (Int32.toNatClampNeg p0)) + (Int32.toNatClampNeg p1)))), (3, .ref (ad (72 + (24 * b + (Int32.toNatClampNeg p0))))), (0, .ref (ad (38 + b))), (1, .int p0), (2, .int p1)]) hx hb dX0_candidates_163 hl (by decide) rfl (fun ls hl => ?_)
                        obtain ⟨z152, ez152⟩ : ∃ y : Int32, y = y8 + 1 := ⟨_, rfl⟩
                        have hz152 : z152.toInt = y8.toInt + 1 := i_add ez152 rfl (by decide) (by (first | exact om_c7103e519a6e klp11_0.1 r13.2 r14 f17 | omega))
                        refine lv_iinc (v := z152) (lv' := [(9, .int z152), (7, .int z151), (8, .int (V 53 (24 * b + (Int32.toNatClampNeg y8)))), (11, .int 1), (10, .ref (ad (72 + (24 * b + (Int32.toNatClampNeg y8))))), (6, .int (V 59 (8 * (24 * b + (Int32.toNatClampNeg p0)) + (Int32.toNatClampNeg p1)))), (5, .int (V 58 (8 * (24 * b + (Int32.toNatClampNeg p0)) + (Int32.toNatClampNeg p1)))), (4, .int (V 60 (8 * (24 * b + (Int32.toNatClampNeg p0)) + (Int32.toNatClampNeg p1)))), (3, .ref (ad (72 + (24 * b + (Int32.toNatClampNeg p0))))), (0, .ref (ad (38 + b))), (1, .int p0), (2, .int p1)]) hx hb dX0_candidates_165 hl (k := 4) rfl (by rw [ez152]; rfl) (by decide) rfl (fun ls hl => ?_)
                        refine lv_goto (tgt := 40) hx hb dX0_candidates_168 (by decide) ?_
                        have r153 : Int32.toInt 1 = 1 := by decide
                        exact ihlp11 z152 (V 53 (24 * b + (Int32.toNatClampNeg y8))) z151 H locs ls (by (first | exact om_ebd92ed44179 klp11_0.1 r13.2 r14 f17 hz152 | omega)) (by (first | exact om_8a0dcf576dcd hz151.1 hz151.2 | omega)) (by (first | exact om_9592d9319ffa hn hz152 | omega)) hP hD hS (lv_sub hl [0, 2, 1, 5, 6, 7, 8, 9, 10, 11] rfl)
              · skip
                have f154 : z103.toInt = 0 := b_eq rfl (by decide) c106
                refine lv_goto (tgt := 165) hx hb dX0_candidates_111 (by decide) ?_
                obtain ⟨z155, ez155⟩ : ∃ y : Int32, y = y8 + 1 := ⟨_, rfl⟩
                have hz155 : z155.toInt = y8.toInt + 1 := i_add ez155 rfl (by decide) (by (first | exact om_c7103e519a6e klp11_0.1 r13.2 r14 f17 | omega))
                refine lv_iinc (v := z155) (lv' := [(9, .int z155), (11, .int 1), (10, .ref (ad (72 + (24 * b + (Int32.toNatClampNeg y8))))), (8, .int y9), (7, .int y10), (6, .int (V 59 (8 * (24 * b + (Int32.toNatClampNeg p0)) + (Int32.toNatClampNeg p1)))), (5, .int (V 58 (8 * (24 * b + (Int32.toNatClampNeg p0)) + (Int32.toNatClampNeg p1)))), (4, .int (V 60 (8 * (24 * b + (Int32.toNatClampNeg p0)) + (Int32.toNatClampNeg p1)))), (3, .ref (ad (72 + (24 * b + (Int32.toNatClampNeg p0))))), (0, .ref (ad (38 + b))), (1, .int p0), (2, .int p1)]) hx hb dX0_candidates_165 hl (k := 2) rfl (by rw [ez155]; rfl) (by decide) rfl (fun ls hl => ?_)
                refine lv_goto (tgt := 40) hx hb dX0_candidates_168 (by decide) ?_
                have r156 : Int32.toInt 1 = 1 := by decide
                exact ihlp11 z155 y9 y10 H locs ls (by (first | exact om_ebd92ed44179 klp11_0.1 r13.2 r14 f17 hz155 | omega)) (by (first | exact om_c51a6401fccc klp11_1.1 klp11_1.2 | omega)) (by (first | exact om_9592d9319ffa hn hz155 | omega)) hP hD hS (lv_sub hl [0, 3, 4, 5, 6, 7, 8, 9, 10, 11] rfl)
  have r157 : Int32.toInt 0 = 0 := by decide
  exact lp11 ((24 - (Int32.toInt 0) + 1 : Int).toNat) 0 0 0 H locs ls (by decide) (by decide) (by omega) hP hD hS (lv_sub hl [0, 1, 2, 3, 4, 5, 6, 7, 8, 9] rfl)
abbrev r_x_firstCandidate2 : Room := { frames := 2, cells := 0, slots := 0, locals := 53 }
abbrev q_x_firstCandidate2 (D : va_G) (ks : KS) (ad : Nat → Nat) (kk : Nat → ClassId) (V : Vf) (L : Lf) (Z : XZ) (p0 : Int32) (p1 : Int32) (b : Nat) (A : Nat → Prop) : Array Value → State → Outcome → State → Prop := va_Qi (fun (r : Int32) (_ : Unit) => ((-1) ≤ r.toInt ∧ r.toInt ≤ 23)) (fun _ t => gq D A (xw ad kk V L Z) (xty kk Z) t) A
set_option maxHeartbeats 4000000 in
set_option maxRecDepth 100000 in
theorem x_firstCandidate2 (l : Launch) (D : va_G) (ks : KS) (sz : Nat) (ad : Nat → Nat) (kk : Nat → ClassId) (V : Vf) (L : Lf) (Z : XZ) (p0 : Int32) (p1 : Int32) (b : Nat) (hMV : rgd bX V) (rg_p0 : 0 ≤ p0.toInt ∧ p0.toInt ≤ 23) (rg_p1 : 0 ≤ p1.toInt ∧ p1.toInt ≤ 7) (hb2 : b < 2)  : Met l yX0_firstCandidate (Cond.code yX0_firstCandidate cX0_firstCandidate 4 (some .int) :: GW) r_x_firstCandidate2 (va_Pc [.ref (ad (38 + b)), .int p0, .int p1] (gp D ks (xw ad kk V L Z) (xty kk Z) sz)) (q_x_firstCandidate2 D ks ad kk V L Z p0 p1 b (va_A (xw ad kk V L Z) sz)) 0 0 (va_A (xw ad kk V L Z) sz) := by
  refine g_met (q_x_firstCandidate2 D ks ad kk V L Z p0 p1 b) (by decide) (Nat.le_of_ble_eq_true rfl) ?_
  intro p e s m below meth c A ls H locs hx hb hr hml hown hg hlocks hin hnw hgk hP hK hD hS hA hl
  have hown : s.vm.findClass RX0 = some m.cls := hown
  have hl : lv_has ls 4 [(0, .ref (ad (38 + b))), (1, .int p0), (2, .int p1)] := hl
  have hP : va_P D vwCl (xw ad kk V L Z) H := hP
  have hD : va_D A (xw ad kk V L Z) := hD
  have hK : va_K D vwCl (xty kk Z) s := hK
  refine lv_aload_n hx hb dX0_firstCandidate_0 rfl (lv_at hl 0 rfl) ?_
  refine lv_iload_n hx hb dX0_firstCandidate_1 rfl (lv_at hl 1 rfl) ?_
  refine lv_iload_n hx hb dX0_firstCandidate_2 rfl (lv_at hl 2 rfl) ?_
  refine gA_int (gA_runV (As := [.int p0, .int p1]) (rest := []) (ci := 0) (q0 := (38 + b)) hx hb hml hown hg hP hD hK hS hA hnw hgk (x_candidates2 l D ks H.size ad kk V L Z p0 p1 (b) hMV (by (first | exact om_d3435e1acec6 rg_p0.1 rg_p0.2 | omega)) (by (first | exact om_8da659b97699 rg_p1.1 rg_p1.2 | omega)) (show b < 2 from by (first | exact om_f940a4667dd6 hb2 | omega))) w1451 w1082 w1083 w167 w1084 rfl (xgBook hb2) hdV_yX0_candidates ⟨Nat.le_of_ble_eq_true rfl, Nat.le_of_ble_eq_true rfl⟩ rfl hl.1 rfl (Nat.le_of_ble_eq_true rfl) dX0_firstCandidate_3 ⟨Nat.le_of_ble_eq_true rfl, Nat.le_of_ble_eq_true rfl⟩) hP hD hK hS hA (fun z1 u2 H locs w3 hP hD hK hS => ?_)
  have rgz1 := w3
  have rgz1 : 0 ≤ z1.toInt ∧ z1.toInt ≤ 16777215 := rgz1
  refine lv_istore_n (lv' := [(3, .int z1), (0, .ref (ad (38 + b))), (1, .int p0), (2, .int p1)]) hx hb dX0_firstCandidate_6 rfl hl (by decide) rfl (fun ls hl => ?_)
  refine lv_iload_n hx hb dX0_firstCandidate_7 rfl (lv_at hl 0 rfl) ?_
  refine lv_if_ne (tgt := 15) hx hb dX0_firstCandidate_8 (by decide) (fun c4 => ?_) (fun c4 => ?_)
  · skip
    have f5 : z1.toInt ≠ 0 := b_neq rfl (by decide) c4
    refine lv_iload_n hx hb dX0_firstCandidate_15 rfl (lv_at hl 0 rfl) ?_
    refine gE_int (g_runS (As := [.int z1]) (rest := []) (wc := []) (tc := []) hx hb hml hown hg gw_self hP hD hK hS hA hnw hgk [] [] (by decide) rfl rfl (x_nTZ2 l D ks H.size z1 ) w1452 w1143 w175 w1144 hdS_yJ6_numberOfTrailingZeros_0f7a4 ⟨Nat.le_of_ble_eq_true rfl, Nat.le_of_ble_eq_true rfl⟩ rfl hl.1 rfl (Nat.le_of_ble_eq_true rfl) dX0_firstCandidate_16 ⟨Nat.le_of_ble_eq_true rfl, Nat.le_of_ble_eq_true rfl⟩) hP hD hK hS hA (fun z6 u7 H locs w8 hP hD hK hS => ?_)
    obtain ⟨rgz6, t9⟩ := w8
    have rgz6 : 0 ≤ z6.toInt ∧ z6.toInt ≤ 32 := rgz6
    have t9 : ∀ m : Nat, 0 < z1.toInt → z1.toInt < ((2 ^ m : Nat) : Int) → z6.toInt < (m : Int) := t9
    have q24 : ((2 ^ 24 : Nat) : Int) = 16777216 := by decide
    have hn24 := t9 24 (by omega) (by omega)
    exact W.iret (v := z6) hx hb hr (fun t ht hW => ⟨⟨z6, (), rfl, (show (-1) ≤ z6.toInt ∧ z6.toInt ≤ 23 from by omega), by rw [ht]; exact hP, va_K.moved hW.alike hK, hD⟩, hS.F ht⟩) hS.2.2 dX0_firstCandidate_19
  · skip
    have f10 : z1.toInt = 0 := b_eq rfl (by decide) c4
    refine lv_iconst (v := (-1)) hx hb dX0_firstCandidate_11 (by decide) ?_
    refine lv_goto (tgt := 19) hx hb dX0_firstCandidate_12 (by decide) ?_
    exact W.iret (v := (-1)) hx hb hr (fun t ht hW => ⟨⟨(-1), (), rfl, (by decide), by rw [ht]; exact hP, va_K.moved hW.alike hK, hD⟩, hS.F ht⟩) hS.2.2 dX0_firstCandidate_19
