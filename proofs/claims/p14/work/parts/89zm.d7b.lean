
abbrev q_s_closesD (D : va_G) (ks : KS) (ad : Nat → Nat) (kk : Nat → ClassId) (V : Vf) (L : Lf) (p0 : Int32) (gB : Bk) (grk : Nat → Nat) (gr : List Fr) (ga : Int32) (gs : Int) (gt : Int) (gu : Int) (glv : Int) (go : Int) (gc : Int) (gsc : Int) (gme : Int) (A : Nat → Prop) : Array Value → State → Outcome → State → Prop := va_Qi (fun (r : Int32) (u : Vf × Lf) => rgd bM u.1 ∧ agr [(0, 60), (0, 65), (0, 68), (0, 69), (0, 73), (0, 76), (0, 90), (0, 91), (0, 92), (0, 93), (0, 95), (0, 96), (0, 98)] [59, 61, 62, 63, 64, 66, 67, 74, 75, 77, 78, 79, 80, 94, 97] V u.1 ∧ u.2 = L ∧ (0 ≤ r.toInt ∧ r.toInt ≤ 1) ∧ ((u.1 0 93).toInt = (V 0 93).toInt) ∧ ((u.1 0 98).toInt = (V 0 98).toInt) ∧ ((V 0 60).toInt ≤ (u.1 0 60).toInt) ∧ ((V 0 65).toInt ≤ (u.1 0 65).toInt) ∧ ((u.1 0 65).toInt - (V 0 65).toInt ≤ (u.1 0 60).toInt - (V 0 60).toInt) ∧ ((u.1 0 73).toInt + (u.1 0 95).toInt - (u.1 0 65).toInt ≤ (V 0 73).toInt + (V 0 95).toInt - (V 0 65).toInt + 1) ∧ ((V 0 73).toInt ≤ (u.1 0 73).toInt) ∧ ((V 0 69).toInt ≤ (u.1 0 69).toInt) ∧ ((u.1 0 95).toInt = (V 0 95).toInt) ∧ ((u.1 0 76).toInt - (u.1 0 69).toInt - (u.1 0 73).toInt ≤ (V 0 76).toInt - (V 0 69).toInt - (V 0 73).toInt) ∧ ((u.1 63 (Int32.toNatClampNeg p0)).toInt = 2) ∧ (RT u.1) ∧ (FRM V u.1 (-1)) ∧ (RJm u.1 gB) ∧ (PLK V u.1 (V 0 98).toInt.toNat) ∧ (DCl gB (mV V 0 gt gu, ga, Fclo0 glv go gc gsc :: gr) u.1 gr r.toInt)) (fun u t => gq D A (mw ad kk ks.1 u.1 u.2) (mty kk) t) A
def K_s_closesD (l : Launch) (D : va_G) (ks : KS) (d1 d2 : Nat) : Prop := ∀ (sz : Nat) (ad : Nat → Nat) (kk : Nat → ClassId) (V : Vf) (L : Lf) (p0 : Int32) (gB : Bk) (grk : Nat → Nat) (gr : List Fr) (ga : Int32) (gs : Int) (gt : Int) (gu : Int) (glv : Int) (go : Int) (gc : Int) (gsc : Int) (gme : Int) (hMV : rgd bM V) (rg_p0 : 0 ≤ p0.toInt ∧ p0.toInt ≤ 299) (rt : RT V) (n1 : (V 0 65).toInt ≤ (V 0 60).toInt) (n2 : (V 0 95).toInt ≤ (V 0 65).toInt) (n3 : (V 0 73).toInt + (V 0 95).toInt - (V 0 65).toInt ≤ 999000) (n4 : (V 0 76).toInt - (V 0 69).toInt - (V 0 73).toInt ≤ 1000000000) (n5 : 300 - (V 0 60).toInt ≤ (d1 : Int)) (n6 : 10 - (V 0 93).toInt ≤ (d2 : Int)) (bk : BKm V gB) (br : BKr gB grk) (rj : RJm V gB) (hl9 : ((gr.length : Nat) : Int) ≤ 28 * (V 0 93).toInt + 25) (hp9 : ((totP gr : Nat) : Int) ≤ 84 * (V 0 93).toInt + 56) (oq1 : p0.toInt < (V 0 60).toInt) (n7 : (V 0 98).toInt + 400 * (d2 : Int) + 30 ≤ 19000) (st1 : 1 ≤ (V 63 (Int32.toNatClampNeg p0)).toInt) (zl9 : (V 0 93).toInt = glv) (zo9 : p0.toInt = go) (zc9 : (V 61 (Int32.toNatClampNeg p0)).toInt = gc) (zs9 : (V 62 (Int32.toNatClampNeg p0)).toInt = gsc) (cm9 : CMPo V gB (Int32.toNatClampNeg p0)) , Met l yX12_closes (Cond.code yX12_closes cX12_closes 4 (some .boolean) :: GW) (rK2 (4 * d1 + 40 * d2 + 13) (100 * d1 + 1000 * d2 + 500)) (va_Pc [.ref (ad 0), .int p0] (gp D ks (mw ad kk ks.1 V L) (mty kk) sz)) (q_s_closesD D ks ad kk V L p0 gB grk gr ga gs gt gu glv go gc gsc gme (va_A (mw ad kk ks.1 V L) sz)) 0 0 (va_A (mw ad kk ks.1 V L) sz)
abbrev q_s_makesD (D : va_G) (ks : KS) (ad : Nat → Nat) (kk : Nat → ClassId) (V : Vf) (L : Lf) (p0 : Int32) (p1 : Int32) (p2 : Int32) (gB : Bk) (grk : Nat → Nat) (gr : List Fr) (ga : Int32) (gs : Int) (gt : Int) (gu : Int) (glv : Int) (go : Int) (gc : Int) (gsc : Int) (gme : Int) (A : Nat → Prop) : Array Value → State → Outcome → State → Prop := va_Qi (fun (r : Int32) (u : Vf × Lf) => rgd bM u.1 ∧ agr [(0, 60), (0, 65), (0, 68), (0, 69), (0, 73), (0, 76), (0, 90), (0, 91), (0, 92), (0, 93), (0, 95), (0, 96), (0, 98)] [59, 61, 62, 63, 64, 66, 67, 74, 75, 77, 78, 79, 80, 94, 97] V u.1 ∧ u.2 = L ∧ (0 ≤ r.toInt ∧ r.toInt ≤ 2) ∧ ((u.1 0 93).toInt = (V 0 93).toInt) ∧ ((u.1 0 98).toInt = (V 0 98).toInt) ∧ ((V 0 60).toInt ≤ (u.1 0 60).toInt) ∧ ((V 0 65).toInt ≤ (u.1 0 65).toInt) ∧ ((u.1 0 65).toInt - (V 0 65).toInt ≤ (u.1 0 60).toInt - (V 0 60).toInt) ∧ ((u.1 0 73).toInt + (u.1 0 95).toInt - (u.1 0 65).toInt ≤ (V 0 73).toInt + (V 0 95).toInt - (V 0 65).toInt) ∧ ((V 0 73).toInt ≤ (u.1 0 73).toInt) ∧ ((V 0 69).toInt ≤ (u.1 0 69).toInt) ∧ ((V 0 95).toInt ≤ (u.1 0 95).toInt) ∧ ((u.1 0 95).toInt - (V 0 95).toInt ≤ (u.1 0 65).toInt - (V 0 65).toInt) ∧ ((u.1 0 76).toInt - (u.1 0 69).toInt - (u.1 0 73).toInt ≤ (V 0 76).toInt - (V 0 69).toInt - (V 0 73).toInt) ∧ (Imp (r.toInt = 0) (0 ≤ (u.1 0 92).toInt ∧ (u.1 0 92).toInt < (u.1 0 60).toInt)) ∧ (Imp (r.toInt = 0) ((u.1 61 (Int32.toNatClampNeg (u.1 0 92))).toInt = p0.toInt ∧ 1 ≤ (u.1 63 (Int32.toNatClampNeg (u.1 0 92))).toInt)) ∧ (RT u.1) ∧ (FRM V u.1 (-1)) ∧ (RJm u.1 gB) ∧ (PLK V u.1 (V 0 98).toInt.toNat) ∧ (DPc gB (makeM (mV V gs gt gu) ga gr gc gsc glv) u.1 gr r.toInt (u.1 0 92) (24 * (10 - (V 0 93).toInt) + ((grk gc.toNat : Nat) : Int)))) (fun u t => gq D A (mw ad kk ks.1 u.1 u.2) (mty kk) t) A
def K_s_makesD (l : Launch) (D : va_G) (ks : KS) (d1 d2 : Nat) : Prop := ∀ (sz : Nat) (ad : Nat → Nat) (kk : Nat → ClassId) (V : Vf) (L : Lf) (p0 : Int32) (p1 : Int32) (p2 : Int32) (gB : Bk) (grk : Nat → Nat) (gr : List Fr) (ga : Int32) (gs : Int) (gt : Int) (gu : Int) (glv : Int) (go : Int) (gc : Int) (gsc : Int) (gme : Int) (hMV : rgd bM V) (rg_p0 : 0 ≤ p0.toInt ∧ p0.toInt ≤ 23) (rg_p1 : 0 ≤ p1.toInt ∧ p1.toInt ≤ 39) (rg_p2 : 0 ≤ p2.toInt ∧ p2.toInt ≤ 1) (rt : RT V) (n1 : (V 0 65).toInt ≤ (V 0 60).toInt) (n2 : (V 0 95).toInt ≤ (V 0 65).toInt) (n3 : (V 0 73).toInt + (V 0 95).toInt - (V 0 65).toInt ≤ 999000) (n4 : (V 0 76).toInt - (V 0 69).toInt - (V 0 73).toInt ≤ 1000000000) (n5 : 300 - (V 0 60).toInt ≤ (d1 : Int)) (n6 : 10 - (V 0 93).toInt ≤ (d2 : Int)) (bk : BKm V gB) (br : BKr gB grk) (rj : RJm V gB) (hs9 : gs = 2 → 0 ≤ gt ∧ gt ≤ 10000) (hl9 : ((gr.length : Nat) : Int) ≤ 28 * (V 0 93).toInt + 24 - ((grk gc.toNat : Nat) : Int)) (hp9 : ((totP gr : Nat) : Int) ≤ 84 * (V 0 93).toInt) (n7 : (V 0 98).toInt + 400 * (d2 : Int) + 30 ≤ 19000) (tq : th V (Int32.toNatClampNeg p0)) (zl9 : (V 0 93).toInt = glv) (zc9 : p0.toInt = gc) (zs9 : p1.toInt = gsc) (fq9 : (p2.toInt = 1) ↔ bS gB gc.toNat = 3) , Met l yX12_makes (Cond.code yX12_makes cX12_makes 6 (some .int) :: GW) (rK2 (4 * d1 + 40 * d2 + 14) (100 * d1 + 1000 * d2 + 560)) (va_Pc [.ref (ad 0), .int p0, .int p1, .int p2] (gp D ks (mw ad kk ks.1 V L) (mty kk) sz)) (q_s_makesD D ks ad kk V L p0 p1 p2 gB grk gr ga gs gt gu glv go gc gsc gme (va_A (mw ad kk ks.1 V L) sz)) 0 0 (va_A (mw ad kk ks.1 V L) sz)
abbrev q_s_getsD (D : va_G) (ks : KS) (ad : Nat → Nat) (kk : Nat → ClassId) (V : Vf) (L : Lf) (p0 : Int32) (p1 : Int32) (gB : Bk) (grk : Nat → Nat) (gr : List Fr) (ga : Int32) (gs : Int) (gt : Int) (gu : Int) (glv : Int) (go : Int) (gc : Int) (gsc : Int) (gme : Int) (A : Nat → Prop) : Array Value → State → Outcome → State → Prop := va_Qi (fun (r : Int32) (u : Vf × Lf) => rgd bM u.1 ∧ agr [(0, 60), (0, 65), (0, 68), (0, 69), (0, 73), (0, 76), (0, 90), (0, 91), (0, 92), (0, 93), (0, 95), (0, 96), (0, 98)] [59, 61, 62, 63, 64, 66, 67, 74, 75, 77, 78, 79, 80, 94, 97] V u.1 ∧ u.2 = L ∧ (0 ≤ r.toInt ∧ r.toInt ≤ 2) ∧ ((u.1 0 93).toInt = (V 0 93).toInt) ∧ ((u.1 0 98).toInt = (V 0 98).toInt) ∧ ((V 0 60).toInt ≤ (u.1 0 60).toInt) ∧ ((V 0 65).toInt ≤ (u.1 0 65).toInt) ∧ ((u.1 0 65).toInt - (V 0 65).toInt ≤ (u.1 0 60).toInt - (V 0 60).toInt) ∧ ((u.1 0 73).toInt + (u.1 0 95).toInt - (u.1 0 65).toInt ≤ (V 0 73).toInt + (V 0 95).toInt - (V 0 65).toInt) ∧ ((V 0 73).toInt ≤ (u.1 0 73).toInt) ∧ ((V 0 69).toInt ≤ (u.1 0 69).toInt) ∧ ((V 0 95).toInt ≤ (u.1 0 95).toInt) ∧ ((u.1 0 95).toInt - (V 0 95).toInt ≤ (u.1 0 65).toInt - (V 0 65).toInt) ∧ ((u.1 0 76).toInt - (u.1 0 69).toInt - (u.1 0 73).toInt ≤ (V 0 76).toInt - (V 0 69).toInt - (V 0 73).toInt) ∧ (Imp (r.toInt = 0) (0 ≤ (u.1 0 92).toInt ∧ (u.1 0 92).toInt < (u.1 0 60).toInt)) ∧ (Imp (r.toInt = 0) ((u.1 61 (Int32.toNatClampNeg (u.1 0 92))).toInt = p0.toInt ∧ 1 ≤ (u.1 63 (Int32.toNatClampNeg (u.1 0 92))).toInt)) ∧ (RT u.1) ∧ (FRM V u.1 (-1)) ∧ (RJm u.1 gB) ∧ (PLK V u.1 (V 0 98).toInt.toNat) ∧ (DPc gB (seekM gB (mV V gs gt gu) ga gr gc gsc glv) u.1 gr r.toInt (u.1 0 92) (24 * (10 - (V 0 93).toInt) + ((grk gc.toNat : Nat) : Int)))) (fun u t => gq D A (mw ad kk ks.1 u.1 u.2) (mty kk) t) A
def K_s_getsD (l : Launch) (D : va_G) (ks : KS) (d1 d2 : Nat) : Prop := ∀ (sz : Nat) (ad : Nat → Nat) (kk : Nat → ClassId) (V : Vf) (L : Lf) (p0 : Int32) (p1 : Int32) (gB : Bk) (grk : Nat → Nat) (gr : List Fr) (ga : Int32) (gs : Int) (gt : Int) (gu : Int) (glv : Int) (go : Int) (gc : Int) (gsc : Int) (gme : Int) (hMV : rgd bM V) (rg_p0 : 0 ≤ p0.toInt ∧ p0.toInt ≤ 23) (rg_p1 : 0 ≤ p1.toInt ∧ p1.toInt ≤ 39) (rt : RT V) (n1 : (V 0 65).toInt ≤ (V 0 60).toInt) (n2 : (V 0 95).toInt ≤ (V 0 65).toInt) (n3 : (V 0 73).toInt + (V 0 95).toInt - (V 0 65).toInt ≤ 999000) (n4 : (V 0 76).toInt - (V 0 69).toInt - (V 0 73).toInt ≤ 1000000000) (n5 : 300 - (V 0 60).toInt ≤ (d1 : Int)) (n6 : 10 - (V 0 93).toInt ≤ (d2 : Int)) (bk : BKm V gB) (br : BKr gB grk) (rj : RJm V gB) (hs9 : gs = 2 → 0 ≤ gt ∧ gt ≤ 10000) (hl9 : ((gr.length : Nat) : Int) ≤ 28 * (V 0 93).toInt + 24 - ((grk gc.toNat : Nat) : Int)) (hp9 : ((totP gr : Nat) : Int) ≤ 84 * (V 0 93).toInt) (n7 : (V 0 98).toInt + 400 * (d2 : Int) + 30 ≤ 19000) (tq : th V (Int32.toNatClampNeg p0)) (zl9 : (V 0 93).toInt = glv) (zc9 : p0.toInt = gc) (zs9 : p1.toInt = gsc) , Met l yX12_gets (Cond.code yX12_gets cX12_gets 6 (some .int) :: GW) (rK2 (4 * d1 + 40 * d2 + 15) (100 * d1 + 1000 * d2 + 590)) (va_Pc [.ref (ad 0), .int p0, .int p1] (gp D ks (mw ad kk ks.1 V L) (mty kk) sz)) (q_s_getsD D ks ad kk V L p0 p1 gB grk gr ga gs gt gu glv go gc gsc gme (va_A (mw ad kk ks.1 V L) sz)) 0 0 (va_A (mw ad kk ks.1 V L) sz)
abbrev q_s_getsWholeD (D : va_G) (ks : KS) (ad : Nat → Nat) (kk : Nat → ClassId) (V : Vf) (L : Lf) (p0 : Int32) (p1 : Int32) (gB : Bk) (grk : Nat → Nat) (gr : List Fr) (ga : Int32) (gs : Int) (gt : Int) (gu : Int) (glv : Int) (go : Int) (gc : Int) (gsc : Int) (gme : Int) (gmk : Int) (A : Nat → Prop) : Array Value → State → Outcome → State → Prop := va_Qi (fun (r : Int32) (u : Vf × Lf) => rgd bM u.1 ∧ agr [(0, 60), (0, 65), (0, 68), (0, 69), (0, 73), (0, 76), (0, 90), (0, 91), (0, 92), (0, 93), (0, 95), (0, 96), (0, 98)] [59, 61, 62, 63, 64, 66, 67, 74, 75, 77, 78, 79, 80, 94, 97] V u.1 ∧ u.2 = L ∧ (0 ≤ r.toInt ∧ r.toInt ≤ 2) ∧ ((u.1 0 93).toInt = (V 0 93).toInt) ∧ ((u.1 0 98).toInt = (V 0 98).toInt) ∧ ((V 0 60).toInt ≤ (u.1 0 60).toInt) ∧ ((V 0 65).toInt ≤ (u.1 0 65).toInt) ∧ ((u.1 0 65).toInt - (V 0 65).toInt ≤ (u.1 0 60).toInt - (V 0 60).toInt) ∧ ((u.1 0 73).toInt + (u.1 0 95).toInt - (u.1 0 65).toInt ≤ (V 0 73).toInt + (V 0 95).toInt - (V 0 65).toInt) ∧ ((V 0 73).toInt ≤ (u.1 0 73).toInt) ∧ ((V 0 69).toInt ≤ (u.1 0 69).toInt) ∧ ((u.1 0 95).toInt = (V 0 95).toInt) ∧ ((u.1 0 76).toInt - (u.1 0 69).toInt - (u.1 0 73).toInt ≤ (V 0 76).toInt - (V 0 69).toInt - (V 0 73).toInt) ∧ (Imp (r.toInt = 0) (0 ≤ (u.1 0 92).toInt ∧ (u.1 0 92).toInt < (u.1 0 60).toInt)) ∧ (Imp (r.toInt = 0) ((u.1 61 (Int32.toNatClampNeg (u.1 0 92))).toInt = p0.toInt ∧ 1 ≤ (u.1 63 (Int32.toNatClampNeg (u.1 0 92))).toInt)) ∧ (RT u.1) ∧ (FRM V u.1 (-1)) ∧ (RJm u.1 gB) ∧ (PLK V u.1 (V 0 98).toInt.toNat) ∧ (DPc gB (mV V gs gt gu, ga, Froot0 glv gc gsc gmk :: gr) u.1 gr r.toInt (u.1 0 92) (24 * (10 - (V 0 93).toInt) + 23))) (fun u t => gq D A (mw ad kk ks.1 u.1 u.2) (mty kk) t) A
def K_s_getsWholeD (l : Launch) (D : va_G) (ks : KS) (d1 d2 : Nat) : Prop := ∀ (sz : Nat) (ad : Nat → Nat) (kk : Nat → ClassId) (V : Vf) (L : Lf) (p0 : Int32) (p1 : Int32) (gB : Bk) (grk : Nat → Nat) (gr : List Fr) (ga : Int32) (gs : Int) (gt : Int) (gu : Int) (glv : Int) (go : Int) (gc : Int) (gsc : Int) (gme : Int) (gmk : Int) (hMV : rgd bM V) (rg_p0 : 0 ≤ p0.toInt ∧ p0.toInt ≤ 23) (rg_p1 : 0 ≤ p1.toInt ∧ p1.toInt ≤ 39) (rt : RT V) (n1 : (V 0 65).toInt ≤ (V 0 60).toInt) (n2 : (V 0 95).toInt ≤ (V 0 65).toInt) (n3 : (V 0 73).toInt + (V 0 95).toInt - (V 0 65).toInt ≤ 999000) (n4 : (V 0 76).toInt - (V 0 69).toInt - (V 0 73).toInt ≤ 1000000000) (n5 : 300 - (V 0 60).toInt ≤ (d1 : Int)) (n6 : 10 - (V 0 93).toInt ≤ (d2 : Int)) (bk : BKm V gB) (br : BKr gB grk) (rj : RJm V gB) (hs9 : gs = 2 → 0 ≤ gt ∧ gt ≤ 10000) (hl9 : ((gr.length : Nat) : Int) ≤ 28 * (V 0 93).toInt) (hp9 : ((totP gr : Nat) : Int) ≤ 84 * (V 0 93).toInt) (n7 : (V 0 98).toInt + 400 * (d2 : Int) + 30 ≤ 19000) (tq : th V (Int32.toNatClampNeg p0)) (zl9 : (V 0 93).toInt = glv) (zc9 : p0.toInt = gc) (zs9 : p1.toInt = gsc) (zk9 : (V 0 95).toInt = gmk) , Met l yX12_getsWhole (Cond.code yX12_getsWhole cX12_getsWhole 8 (some .int) :: GW) (rK2 (4 * d1 + 40 * d2 + 16) (100 * d1 + 1000 * d2 + 620)) (va_Pc [.ref (ad 0), .int p0, .int p1] (gp D ks (mw ad kk ks.1 V L) (mty kk) sz)) (q_s_getsWholeD D ks ad kk V L p0 p1 gB grk gr ga gs gt gu glv go gc gsc gme gmk (va_A (mw ad kk ks.1 V L) sz)) 0 0 (va_A (mw ad kk ks.1 V L) sz)
set_option maxHeartbeats 4000000 in
set_option maxRecDepth 100000 in
theorem s_getsD {l : Launch} {D : va_G} {ks : KS} {d1 d2 : Nat} (hk_s_makesD : K_s_makesD l D ks d1 d2) : K_s_getsD l D ks d1 d2 := by
  intro sz ad kk V L p0 p1 gB grk gr ga gs gt gu glv go gc gsc gme hMV rg_p0 rg_p1 rt n1 n2 n3 n4 n5 n6 bk br rj hs9 hl9 hp9 n7 tq zl9 zc9 zs9
  refine g_met (q_s_getsD D ks ad kk V L p0 p1 gB grk gr ga gs gt gu glv go gc gsc gme) (by decide) (Nat.le_of_ble_eq_true rfl) ?_
  intro p e s m below meth c A ls H locs hx hb hr hml hown hg hlocks hin hnw hgk hP hK hD hS hA hl
  have hown : s.vm.findClass RX12 = some m.cls := hown
  have hl : lv_has ls 6 [(0, .ref (ad 0)), (1, .int p0), (2, .int p1)] := hl
  have hP : va_P D vwCl (mw ad kk ks.1 V L) H := hP
  have hD : va_D A (mw ad kk ks.1 V L) := hD
  have hK : va_K D vwCl (mty kk) s := hK
  have agV : agr [(0, 60), (0, 65), (0, 68), (0, 69), (0, 73), (0, 76), (0, 90), (0, 91), (0, 92), (0, 93), (0, 95), (0, 96), (0, 98)] [59, 61, 62, 63, 64, 66, 67, 74, 75, 77, 78, 79, 80, 94, 97] V V := agr.rf
  have r1 : 0 ≤ ((V 0 65)).toInt ∧ ((V 0 65)).toInt ≤ 1000000 := hMV 0 65
  have r2 : 0 ≤ ((V 0 60)).toInt ∧ ((V 0 60)).toInt ≤ 300 := hMV 0 60
  have r3 : 0 ≤ ((V 0 95)).toInt ∧ ((V 0 95)).toInt ≤ 300 := hMV 0 95
  have r4 : 0 ≤ ((V 0 73)).toInt ∧ ((V 0 73)).toInt ≤ 1000000 := hMV 0 73
  have r5 : 0 ≤ ((V 0 76)).toInt ∧ ((V 0 76)).toInt ≤ 2000000000 := hMV 0 76
  have r6 : 0 ≤ ((V 0 69)).toInt ∧ ((V 0 69)).toInt ≤ 3000 := hMV 0 69
  have r7 : 0 ≤ ((V 0 93)).toInt ∧ ((V 0 93)).toInt ≤ 10 := hMV 0 93
  have r8 : 0 ≤ ((V 0 98)).toInt ∧ ((V 0 98)).toInt ≤ 20000 := hMV 0 98
  have kc9 := i_clamp (x := p0) rfl (by (first | exact om_eafa9039069c rg_p0.1 | omega))
  have gc9 : gc.toNat = Int32.toNatClampNeg p0 := by rw [← zc9]; rfl
  have th9 := BKm.thI bk br.2.2.2.2.2.1 br.2.2.2.2.2.2.2.2.1 tq
  have cl9 := th9.1
  have rk9 := br.2.2.2.1 _ cl9 th9.2
  have rk8 : grk gc.toNat = grk (Int32.toNatClampNeg p0) := by rw [gc9]
  refine lv_aload_n hx hb dX12_gets_0 rfl (lv_at hl 0 rfl) ?_
  refine lv_iload_n hx hb dX12_gets_1 rfl (lv_at hl 1 rfl) ?_
  refine lv_iload_n hx hb dX12_gets_2 rfl (lv_at hl 2 rfl) ?_
  refine gA_int (gA_runV (As := [.int p0, .int p1]) (rest := []) (ci := 12) (q0 := 0) hx hb hml hown hg hP hD hK hS hA hnw hgk (s_placeOf3 l D ks H.size ad kk V L p0 p1 (gB) (gs) (gt) (gu) hMV (by (first | exact om_d3435e1acec6 rg_p0.1 rg_p0.2 | omega)) (by (first | exact om_13ba01c174fe rg_p1.1 rg_p1.2 | omega)) bk cl9) w2243 w2245 w130 w172 w2246 rfl rfl hdV_yX12_placeOf ⟨(by show (0) + 1 ≤ (4 * d1 + 40 * d2 + 15); (first | exact om_6a44aa5f39d7 n6 r7.2 | omega)), (by show 8 + (4 + 11) + (0) ≤ (100 * d1 + 1000 * d2 + 590); (first | exact om_6728719961f2 n6 r7.2 | omega))⟩ rfl hl.1 rfl (Nat.le_of_ble_eq_true rfl) dX12_gets_3 ⟨Nat.le_of_ble_eq_true rfl, Nat.le_of_ble_eq_true rfl⟩) hP hD hK hS hA (fun z9 u10 H locs w11 hP hD hK hS => ?_)
  obtain ⟨rgz9, t12⟩ := w11
  have rgz9 : (-1) ≤ z9.toInt ∧ z9.toInt ≤ 39 := rgz9
  have t12 : z9.toInt = plc (mV V (gs) (gt) (gu)) (bS (gB) (Int32.toNatClampNeg p0)) p1.toInt := t12
  refine lv_istore_n (lv' := [(3, .int z9), (0, .ref (ad 0)), (1, .int p0), (2, .int p1)]) hx hb dX12_gets_6 rfl hl (by decide) rfl (fun ls hl => ?_)
  have pl9 : plc (mV V gs gt gu) (bS gB gc.toNat) gsc = z9.toInt := by rw [gc9, ← zs9]; exact t12.symm
  refine lv_iload_n hx hb dX12_gets_7 rfl (lv_at hl 0 rfl) ?_
  refine lv_if_ge (tgt := 18) hx hb dX12_gets_8 (by decide) (fun c13 => ?_) (fun c13 => ?_)
  · skip
    have f14 : 0 ≤ z9.toInt := b_le (by decide) rfl c13
    refine lv_aload_n hx hb dX12_gets_18 rfl (lv_at hl 1 rfl) ?_
    refine va_get (D := D) (ci := 12) (v := .ref (ad 22)) (C := RX12) (T := TX12) (N := 100) hx hb hg inX12 hown hK hP 0 rfl rfl 22 (by decide) (hg _ w1728) (fun _ h9 => h9) rfl dX12_gets_19 ?_
    refine lv_bipush (v := 24) hx hb dX12_gets_22 (by decide) ?_
    refine lv_aload_n hx hb dX12_gets_24 rfl (lv_at hl 1 rfl) ?_
    refine va_get (D := D) (ci := 12) (v := .int (V 0 11)) (C := RX12) (T := TX12) (N := 100) hx hb hg inX12 hown hK hP 0 rfl rfl 11 (by decide) (hg _ w1717) (fun _ h9 => h9) rfl dX12_gets_25 ?_
    have r15 : 0 ≤ ((V 0 11)).toInt ∧ ((V 0 11)).toInt ≤ 1 := hMV 0 11
    refine lv_imul hx hb dX12_gets_28 ?_
    refine lv_topi (fun z16 ez16 => ?_)
    have hz16 : z16.toInt = 24 * ((V 0 11)).toInt := i_mul ez16 (by decide) rfl (by (first | exact om_3f8aba7b6ce1 r15.1 r15.2 | omega))
    refine lv_iload_n hx hb dX12_gets_29 rfl (lv_at hl 2 rfl) ?_
    refine lv_iadd hx hb dX12_gets_30 ?_
    refine lv_topi (fun z17 ez17 => ?_)
    have hz17 : z17.toInt = z16.toInt + p0.toInt := i_add ez17 rfl rfl (by (first | exact om_6c84dfc0d33f rg_p0.1 rg_p0.2 r15.1 r15.2 hz16 | omega))
    have kn9 : (nwh V : Int) = (V 0 11).toInt := i_clamp (x := V 0 11) rfl (by (first | exact om_eafa9039069c r15.1 | omega))
    have kz2 : Int32.toNatClampNeg z17 = 24 * nwh V + Int32.toNatClampNeg p0 := by have h9 := i_clamp (x := z17) rfl (by (first | exact om_11587583f9f8 rg_p0.1 r15.1 hz16 hz17 | omega)); (first | exact om_c817cff9597c kc9 hz16 hz17 kn9 h9 | omega)
    have c22 : (V 22 (Int32.toNatClampNeg z17)).toInt = ((bS gB gc.toNat : Nat) : Int) := by rw [kz2, gc9]; exact (bk.2.2.2.1.2.2 (Int32.toNatClampNeg p0) cl9).1.2.1
    refine va_iald (D := D) (i := z17) hx hb hK hP 15 14 rfl rfl (i_in (a := z17.toInt) rfl (by (first | exact om_cf341bf82a51 rg_p0.1 rg_p0.2 r15.1 r15.2 hz16 hz17 | omega))) dX12_gets_31 ?_
    refine lv_iconst (v := 3) hx hb dX12_gets_32 (by decide) ?_
    refine lv_icmp_ne (tgt := 40) hx hb dX12_gets_33 (by decide) (fun c18 => ?_) (fun c18 => ?_)
    · skip
      have f19 : ((V 22 (Int32.toNatClampNeg z17))).toInt ≠ 3 := b_neq rfl (by decide) c18
      refine lv_iconst (v := 0) hx hb dX12_gets_40 (by decide) ?_
      refine lv_istore (lv' := [(4, .int 0), (3, .int z9), (0, .ref (ad 0)), (1, .int p0), (2, .int p1)]) hx hb dX12_gets_41 hl (by decide) rfl (fun ls hl => ?_)
      refine lv_aload_n hx hb dX12_gets_43 rfl (lv_at hl 2 rfl) ?_
      refine va_get (D := D) (ci := 12) (v := .ref (ad 59)) (C := RX12) (T := TX12) (N := 100) hx hb hg inX12 hown hK hP 0 rfl rfl 59 (by decide) (hg _ w1765) (fun _ h9 => h9) rfl dX12_gets_44 ?_
      refine lv_bipush (v := 24) hx hb dX12_gets_47 (by decide) ?_
      refine lv_iload_n hx hb dX12_gets_49 rfl (lv_at hl 1 rfl) ?_
      refine lv_imul hx hb dX12_gets_50 ?_
      refine lv_topi (fun z20 ez20 => ?_)
      have hz20 : z20.toInt = 24 * z9.toInt := i_mul ez20 (by decide) rfl (by (first | exact om_3b98457e2d8a rgz9.2 f14 | omega))
      refine lv_iload_n hx hb dX12_gets_51 rfl (lv_at hl 3 rfl) ?_
      refine lv_iadd hx hb dX12_gets_52 ?_
      refine lv_topi (fun z21 ez21 => ?_)
      have hz21 : z21.toInt = z20.toInt + p0.toInt := i_add ez21 rfl rfl (by (first | exact om_f1d4697d758d rg_p0.1 rg_p0.2 rgz9.2 f14 hz20 | omega))
      have kz9 : Int32.toNatClampNeg z21 = 24 * z9.toInt.toNat + gc.toNat := by have h9 := i_clamp (x := z21) rfl (by (first | exact om_11587583f9f8 rg_p0.1 f14 hz20 hz21 | omega)); rw [gc9]; omega
      refine va_zald (D := D) (i := z21) hx hb hK hP 45 44 rfl rfl (i_in (a := z21.toInt) rfl (by (first | exact om_b108857776dc rg_p0.1 rg_p0.2 rgz9.2 f14 hz20 hz21 | omega))) dX12_gets_53 ?_
      have r22 : 0 ≤ ((V 59 (Int32.toNatClampNeg z21))).toInt ∧ ((V 59 (Int32.toNatClampNeg z21))).toInt ≤ 1 := hMV 59 (Int32.toNatClampNeg z21)
      refine lv_if_eq (tgt := 64) hx hb dX12_gets_54 (by decide) (fun c23 => ?_) (fun c23 => ?_)
      · skip
        have f24 : ((V 59 (Int32.toNatClampNeg z21))).toInt = 0 := b_eq rfl (by decide) c23
        have ns9 : ¬ mV V gs gt gu 8 (24 * z9.toInt.toNat + gc.toNat) ≠ 0 := fun h9 => h9 (show (V 59 _).toInt = 0 from by rw [← kz9]; omega)
        refine lv_iload hx hb dX12_gets_64 (lv_at hl 0 rfl) ?_
        refine lv_if_eq (tgt := 73) hx hb dX12_gets_66 (by decide) (fun _ => ?_) (fun q => absurd (by decide) q)
        refine lv_aload_n hx hb dX12_gets_73 rfl (lv_at hl 2 rfl) ?_
        refine lv_iload_n hx hb dX12_gets_74 rfl (lv_at hl 3 rfl) ?_
        refine lv_iload_n hx hb dX12_gets_75 rfl (lv_at hl 1 rfl) ?_
        refine gA_int (gA_runV (As := [.int p0, .int z9]) (rest := []) (ci := 12) (q0 := 0) hx hb hml hown hg hP hD hK hS hA hnw hgk (s_objectAt3 l D ks H.size ad kk V L p0 z9 (gB) (gs) (gt) (gu) hMV (by (first | exact om_d3435e1acec6 rg_p0.1 rg_p0.2 | omega)) (by (first | exact om_8588804ef24d rgz9.2 f14 | omega))) w2251 w2253 w132 w172 w2254 rfl rfl hdV_yX12_objectAt ⟨(by show (0) + 1 ≤ (4 * d1 + 40 * d2 + 15); (first | exact om_6a44aa5f39d7 n6 r7.2 | omega)), (by show 8 + (5 + 11) + (0) ≤ (100 * d1 + 1000 * d2 + 590); (first | exact om_0299e32c765d n6 r7.2 | omega))⟩ rfl hl.1 rfl (Nat.le_of_ble_eq_true rfl) dX12_gets_76 ⟨Nat.le_of_ble_eq_true rfl, Nat.le_of_ble_eq_true rfl⟩) hP hD hK hS hA (fun z25 u26 H locs w27 hP hD hK hS => ?_)
        obtain ⟨rgz25, t28, t29⟩ := w27
        have rgz25 : (-1) ≤ z25.toInt ∧ z25.toInt ≤ 299 := rgz25
        have t28 : z25.toInt < (V 0 60).toInt := t28
        have t29 : z25.toInt = prs (mV V (gs) (gt) (gu)) z9.toInt p0.toInt (V 0 60).toInt.toNat := t29
        refine lv_istore (lv' := [(5, .int z25), (4, .int 0), (3, .int z9), (0, .ref (ad 0)), (1, .int p0), (2, .int p1)]) hx hb dX12_gets_79 hl (by decide) rfl (fun ls hl => ?_)
        have ox9 : z25.toInt = prs (mV V gs gt gu) z9.toInt gc (V 0 60).toInt.toNat := by rw [← zc9]; exact t29
        refine lv_iload hx hb dX12_gets_81 (lv_at hl 0 rfl) ?_
        refine lv_if_lt (tgt := 103) hx hb dX12_gets_83 (by decide) (fun c30 => ?_) (fun c30 => ?_)
        · skip
          have f31 : z25.toInt < 0 := b_lt rfl (by decide) c30
          refine lv_iload hx hb dX12_gets_103 (lv_at hl 0 rfl) ?_
          refine lv_if_lt (tgt := 116) hx hb dX12_gets_105 (by decide) (fun c32 => ?_) (fun c32 => ?_)
          · skip
            have f33 : z25.toInt < 0 := b_lt rfl (by decide) c32
            refine lv_aload_n hx hb dX12_gets_116 rfl (lv_at hl 3 rfl) ?_
            refine lv_iload_n hx hb dX12_gets_117 rfl (lv_at hl 4 rfl) ?_
            refine lv_iload_n hx hb dX12_gets_118 rfl (lv_at hl 2 rfl) ?_
            refine lv_iload hx hb dX12_gets_119 (lv_at hl 1 rfl) ?_
            have r34 : Int32.toInt 0 = 0 := by decide
            refine gA_int (gA_runV (As := [.int p0, .int z9, .int 0]) (rest := []) (ci := 12) (q0 := 0) hx hb hml hown hg hP hD hK hS hA hnw hgk (hk_s_makesD H.size ad kk V L p0 z9 0 (gB) (grk) (gr) (ga) (gs) (gt) (gu) (glv) (go) (gc) ((z9.toInt)) (gme) hMV (by omega) (by omega) (by decide) rt (show (V 0 65).toInt ≤ (V 0 60).toInt from by omega) (show (V 0 95).toInt ≤ (V 0 65).toInt from by omega) (show (V 0 73).toInt + (V 0 95).toInt - (V 0 65).toInt ≤ 999000 from by omega) (show (V 0 76).toInt - (V 0 69).toInt - (V 0 73).toInt ≤ 1000000000 from by omega) (show 300 - (V 0 60).toInt ≤ ((d1 : Nat) : Int) from by omega) (show 10 - (V 0 93).toInt ≤ ((d2 : Nat) : Int) from by omega) bk br rj hs9 (show (((gr).length : Nat) : Int) ≤ 28 * (V 0 93).toInt + 24 - (((grk) (gc).toNat : Nat) : Int) from by omega) (show ((totP (gr) : Nat) : Int) ≤ 84 * (V 0 93).toInt from by omega) (show (V 0 98).toInt + 400 * ((d2 : Nat) : Int) + 30 ≤ 19000 from by omega) tq (show (V 0 93).toInt = (glv) from by omega) (show p0.toInt = (gc) from by omega) (show z9.toInt = ((z9.toInt)) from by (first | exact om_4c2c879c4424 | omega)) ⟨fun h9 => by first | omega | exact absurd h9 (by decide), fun h9 => by first | rfl | (exfalso; (first | exact om_83a6a9035f51 ox9 f31 | omega))⟩) w2255 w2257 w133 w172 w2258 rfl rfl hdV_yX12_makes ⟨(by show (4 * (d1) + 40 * (d2) + 14) + 1 ≤ (4 * d1 + 40 * d2 + 15); (first | exact om_a14fe9afdc0a | omega)), (by show 8 + (6 + 11) + (100 * (d1) + 1000 * (d2) + 560) ≤ (100 * d1 + 1000 * d2 + 590); (first | exact om_0fc53bc74133 | omega))⟩ rfl hl.1 rfl (Nat.le_of_ble_eq_true rfl) dX12_gets_121 ⟨Nat.le_of_ble_eq_true rfl, Nat.le_of_ble_eq_true rfl⟩) hP hD hK hS hA (fun z35 u36 H locs w37 hP hD hK hS => ?_)
            obtain ⟨V56, L57⟩ := u36
            obtain ⟨hMV56, ajV56, axL57, rgz35, t38, t39, t40, t41, t42, t43, t44, t45, t46, t47, t48, t49, t50, t51, t52, t53, t54, t55⟩ := w37
            have axL57 : L = L57 := Eq.symm axL57
            subst axL57
            have hP : va_P D vwCl (mw ad kk ks.1 V56 L) H := hP
            have hD : va_D A (mw ad kk ks.1 V56 L) := hD
            have hMV56 : rgd bM V56 := hMV56
            have ajV56 : agr [(0, 60), (0, 65), (0, 68), (0, 69), (0, 73), (0, 76), (0, 90), (0, 91), (0, 92), (0, 93), (0, 95), (0, 96), (0, 98)] [59, 61, 62, 63, 64, 66, 67, 74, 75, 77, 78, 79, 80, 94, 97] V V56 := ajV56
            have agV56 : agr [(0, 60), (0, 65), (0, 68), (0, 69), (0, 73), (0, 76), (0, 90), (0, 91), (0, 92), (0, 93), (0, 95), (0, 96), (0, 98)] [59, 61, 62, 63, 64, 66, 67, 74, 75, 77, 78, 79, 80, 94, 97] V V56 := agV.tr ajV56 (by decide) (by decide)
            have rgz35 : 0 ≤ z35.toInt ∧ z35.toInt ≤ 2 := rgz35
            have t38 : (V56 0 93).toInt = (V 0 93).toInt := t38
            have t39 : (V56 0 98).toInt = (V 0 98).toInt := t39
            have t40 : (V 0 60).toInt ≤ (V56 0 60).toInt := t40
            have t41 : (V 0 65).toInt ≤ (V56 0 65).toInt := t41
            have t42 : (V56 0 65).toInt - (V 0 65).toInt ≤ (V56 0 60).toInt - (V 0 60).toInt := t42
            have t43 : (V56 0 73).toInt + (V56 0 95).toInt - (V56 0 65).toInt ≤ (V 0 73).toInt + (V 0 95).toInt - (V 0 65).toInt := t43
            have t44 : (V 0 73).toInt ≤ (V56 0 73).toInt := t44
            have t45 : (V 0 69).toInt ≤ (V56 0 69).toInt := t45
            have t46 : (V 0 95).toInt ≤ (V56 0 95).toInt := t46
            have t47 : (V56 0 95).toInt - (V 0 95).toInt ≤ (V56 0 65).toInt - (V 0 65).toInt := t47
            have t48 : (V56 0 76).toInt - (V56 0 69).toInt - (V56 0 73).toInt ≤ (V 0 76).toInt - (V 0 69).toInt - (V 0 73).toInt := t48
            have t49 : Imp (z35.toInt = 0) (0 ≤ (V56 0 92).toInt ∧ (V56 0 92).toInt < (V56 0 60).toInt) := t49
            have t50 : Imp (z35.toInt = 0) ((V56 61 (Int32.toNatClampNeg (V56 0 92))).toInt = p0.toInt ∧ 1 ≤ (V56 63 (Int32.toNatClampNeg (V56 0 92))).toInt) := t50
            have t51 : RT V56 := t51
            have t52 : FRM V V56 (-1) := t52
            have t53 : RJm V56 (gB) := t53
            have t54 : PLK V V56 (V 0 98).toInt.toNat := t54
            have t55 : DPc (gB) (makeM (mV V (gs) (gt) (gu)) (ga) (gr) (gc) ((z9.toInt)) (glv)) V56 (gr) z35.toInt (V56 0 92) (24 * (10 - (V 0 93).toInt) + (((grk) (gc).toNat : Nat) : Int)) := t55
            have r58 : 0 ≤ ((V56 0 93)).toInt ∧ ((V56 0 93)).toInt ≤ 10 := hMV56 0 93
            have r59 : 0 ≤ ((V56 0 98)).toInt ∧ ((V56 0 98)).toInt ≤ 20000 := hMV56 0 98
            have r60 : 0 ≤ ((V56 0 60)).toInt ∧ ((V56 0 60)).toInt ≤ 300 := hMV56 0 60
            have r61 : 0 ≤ ((V56 0 65)).toInt ∧ ((V56 0 65)).toInt ≤ 1000000 := hMV56 0 65
            have r62 : 0 ≤ ((V56 0 73)).toInt ∧ ((V56 0 73)).toInt ≤ 1000000 := hMV56 0 73
            have r63 : 0 ≤ ((V56 0 95)).toInt ∧ ((V56 0 95)).toInt ≤ 300 := hMV56 0 95
            have r64 : 0 ≤ ((V56 0 69)).toInt ∧ ((V56 0 69)).toInt ≤ 3000 := hMV56 0 69
            have r65 : 0 ≤ ((V56 0 76)).toInt ∧ ((V56 0 76)).toInt ≤ 2000000000 := hMV56 0 76
            have fm66 : FRM V V56 (-1) := (t52 : FRM V V56 (-1))
            have pk67 : PLK V V56 (V 0 98).toInt.toNat := (PLK.tr (PLK.rf : PLK V V (V 0 98).toInt.toNat) t54 (by (first | exact om_2b97926ac273 | omega)))
            have rp68 : DPc gB (seekM gB (mV V gs gt gu) ga gr gc gsc glv) V56 gr (z35.toInt) (V56 0 92) (24 * (10 - (V 0 93).toInt) + ((grk gc.toNat : Nat) : Int)) := by rw [sk_m pl9 (by omega) ns9 (Or.inr (show prs (mV V gs gt gu) z9.toInt gc (V 0 60).toInt.toNat < 0 from by rw [← ox9]; omega))]; exact t55
            exact W.iret (v := z35) hx hb hr (fun t ht hW => ⟨⟨z35, (V56, L), rfl, ⟨hMV56, agV56, rfl, (show 0 ≤ z35.toInt ∧ z35.toInt ≤ 2 from by first | omega | ((try (have i_t49 := Imp.go t49 (by omega))); omega)), (show (V56 0 93).toInt = (V 0 93).toInt from by first | omega | ((try (have i_t49 := Imp.go t49 (by omega))); omega)), (show (V56 0 98).toInt = (V 0 98).toInt from by first | omega | ((try (have i_t49 := Imp.go t49 (by omega))); omega)), (show (V 0 60).toInt ≤ (V56 0 60).toInt from by first | omega | ((try (have i_t49 := Imp.go t49 (by omega))); omega)), (show (V 0 65).toInt ≤ (V56 0 65).toInt from by first | omega | ((try (have i_t49 := Imp.go t49 (by omega))); omega)), (show (V56 0 65).toInt - (V 0 65).toInt ≤ (V56 0 60).toInt - (V 0 60).toInt from by first | omega | ((try (have i_t49 := Imp.go t49 (by omega))); omega)), (show (V56 0 73).toInt + (V56 0 95).toInt - (V56 0 65).toInt ≤ (V 0 73).toInt + (V 0 95).toInt - (V 0 65).toInt from by first | omega | ((try (have i_t49 := Imp.go t49 (by omega))); omega)), (show (V 0 73).toInt ≤ (V56 0 73).toInt from by first | omega | ((try (have i_t49 := Imp.go t49 (by omega))); omega)), (show (V 0 69).toInt ≤ (V56 0 69).toInt from by first | omega | ((try (have i_t49 := Imp.go t49 (by omega))); omega)), (show (V 0 95).toInt ≤ (V56 0 95).toInt from by first | omega | ((try (have i_t49 := Imp.go t49 (by omega))); omega)), (show (V56 0 95).toInt - (V 0 95).toInt ≤ (V56 0 65).toInt - (V 0 65).toInt from by first | omega | ((try (have i_t49 := Imp.go t49 (by omega))); omega)), (show (V56 0 76).toInt - (V56 0 69).toInt - (V56 0 73).toInt ≤ (V 0 76).toInt - (V 0 69).toInt - (V 0 73).toInt from by first | omega | ((try (have i_t49 := Imp.go t49 (by omega))); omega)), (Imp.mk (fun hp => have hp : z35.toInt = 0 := hp; (show 0 ≤ (V56 0 92).toInt ∧ (V56 0 92).toInt < (V56 0 60).toInt from by first | omega | ((try (have i_t49 := Imp.go t49 (by omega))); omega)))), t50, t51, fm66, t53, pk67, rp68⟩, by rw [ht]; exact hP, va_K.moved hW.alike hK, hD⟩, hS.F ht⟩) hS.2.2 dX12_gets_124
          · skip
            have f69 : 0 ≤ z25.toInt := b_nlt rfl (by decide) c32
            exfalso; (first | exact om_54ab17f89714 f31 f69 | omega)
        · skip
          have f70 : 0 ≤ z25.toInt := b_nlt rfl (by decide) c30
          refine lv_aload_n hx hb dX12_gets_86 rfl (lv_at hl 3 rfl) ?_
          refine va_get (D := D) (ci := 12) (v := .ref (ad 63)) (C := RX12) (T := TX12) (N := 100) hx hb hg inX12 hown hK hP 0 rfl rfl 63 (by decide) (hg _ w1769) (fun _ h9 => h9) rfl dX12_gets_87 ?_
          refine lv_iload hx hb dX12_gets_90 (lv_at hl 0 rfl) ?_
          refine va_iald (D := D) (i := z25) hx hb hK hP 48 47 rfl rfl (i_in (a := z25.toInt) rfl (by (first | exact om_1ef2a0549dee rgz25.2 f70 | omega))) dX12_gets_92 ?_
          have r71 : 0 ≤ ((V 63 (Int32.toNatClampNeg z25))).toInt ∧ ((V 63 (Int32.toNatClampNeg z25))).toInt ≤ 2 := hMV 63 (Int32.toNatClampNeg z25)
          refine lv_if_ne (tgt := 103) hx hb dX12_gets_93 (by decide) (fun c72 => ?_) (fun c72 => ?_)
          · skip
            have f73 : ((V 63 (Int32.toNatClampNeg z25))).toInt ≠ 0 := b_neq rfl (by decide) c72
            refine lv_iload hx hb dX12_gets_103 (lv_at hl 0 rfl) ?_
            refine lv_if_lt (tgt := 116) hx hb dX12_gets_105 (by decide) (fun c74 => ?_) (fun c74 => ?_)
            · skip
              have f75 : z25.toInt < 0 := b_lt rfl (by decide) c74
              exfalso; (first | exact om_1b10ca75f5f0 f70 f75 | omega)
            · skip
              have f76 : 0 ≤ z25.toInt := b_nlt rfl (by decide) c74
              have ob9 := prs_b _ _ (show prs (mV V gs gt gu) z9.toInt gc (V 0 60).toInt.toNat = ((Int32.toNatClampNeg z25 : Nat) : Int) from by have h9 := i_clamp (x := z25) rfl (by (first | exact om_eafa9039069c f70 | omega)); rw [← ox9]; omega)
              have ob1 : (V 61 (Int32.toNatClampNeg z25)).toInt = gc := ob9.2.1
              have ob3 : (V 63 (Int32.toNatClampNeg z25)).toInt < 2 := ob9.2.2.2
              have ob4 : 0 ≤ (V 63 (Int32.toNatClampNeg z25)).toInt := (hMV 63 _).1
              have ht77 : TRs gB (seekM gB (mV V gs gt gu) ga gr gc gsc glv) (mV V 1 gt gu, (nI (Int32.toNatClampNeg z25)), gr) := by rw [sk_a pl9 (by omega) ns9 (by omega) (show prs (mV V gs gt gu) z9.toInt gc (V 0 60).toInt.toNat = ((Int32.toNatClampNeg z25 : Nat) : Int) from by have h9 := i_clamp (x := z25) rfl (by (first | exact om_eafa9039069c f70 | omega)); rw [← ox9]; omega) (show (V 63 _).toInt = 1 from by omega), mV_ans]; exact TRs.rf
              refine lv_aload_n hx hb dX12_gets_108 rfl (lv_at hl 3 rfl) ?_
              refine lv_iload hx hb dX12_gets_109 (lv_at hl 0 rfl) ?_
              refine va_put (D := D) (ci := 12) (v := .int z25) (ty := tyX12 92) (C := RX12) (T := TX12) (N := 100) hx hb hg inX12 tyX12 tyX12_ok nmX12 hown hK hP hD hS 0 rfl rfl 92 (by decide) (hg _ w1798) (fun _ h9 => h9) rfl (tyX12_ok 92 (by decide)) rfl rfl (Nat.le_of_ble_eq_true rfl) dX12_gets_111 (fun H locs hP hD hS => ?_)
              obtain ⟨V78, hV78⟩ : ∃ z, z = up2 V 0 92 z25 := ⟨_, rfl⟩
              have hP : va_P D vwCl (mw ad kk ks.1 V78 L) H := by rw [hV78]; exact hP
              have hD : va_D A (mw ad kk ks.1 V78 L) := by rw [hV78]; exact hD
              have hMV78 : rgd bM V78 := hMV.put hV78 (i_full _)
              have agV78 : agr [(0, 60), (0, 65), (0, 68), (0, 69), (0, 73), (0, 76), (0, 90), (0, 91), (0, 92), (0, 93), (0, 95), (0, 96), (0, 98)] [59, 61, 62, 63, 64, 66, 67, 74, 75, 77, 78, 79, 80, 94, 97] V V78 := agV.up hV78 rfl
              refine lv_iconst (v := 0) hx hb dX12_gets_114 (by decide) ?_
              have pq79 : (V78 0 93).toInt = ((V 0 93)).toInt := congrArg Int32.toInt (up2_k hV78 (by decide))
              have pq80 : (V78 0 98).toInt = ((V 0 98)).toInt := congrArg Int32.toInt (up2_k hV78 (by decide))
              have pq81 : (V78 0 60).toInt = ((V 0 60)).toInt := congrArg Int32.toInt (up2_k hV78 (by decide))
              have pq82 : (V78 0 65).toInt = ((V 0 65)).toInt := congrArg Int32.toInt (up2_k hV78 (by decide))
              have pq83 : (V78 0 73).toInt = ((V 0 73)).toInt := congrArg Int32.toInt (up2_k hV78 (by decide))
              have pq84 : (V78 0 95).toInt = ((V 0 95)).toInt := congrArg Int32.toInt (up2_k hV78 (by decide))
              have pq85 : (V78 0 69).toInt = ((V 0 69)).toInt := congrArg Int32.toInt (up2_k hV78 (by decide))
              have pq86 : (V78 0 76).toInt = ((V 0 76)).toInt := congrArg Int32.toInt (up2_k hV78 (by decide))
              have pq87 : (V78 0 92).toInt = z25.toInt := congrArg Int32.toInt (up2_s hV78)
              have rp88 : Imp (Int32.toInt 0 = 0) ((V78 61 (Int32.toNatClampNeg (V78 0 92))).toInt = p0.toInt ∧ 1 ≤ (V78 63 (Int32.toNatClampNeg (V78 0 92))).toInt) := Imp.mk (fun _ => by rw [(up2_s hV78), (show agr [(0, 92)] [] V V78 from (agr.up agr.rf hV78 rfl)) 61 _ rfl, (show agr [(0, 92)] [] V V78 from (agr.up agr.rf hV78 rfl)) 63 _ rfl]; exact ⟨by omega, by omega⟩)
              have rt89 : RT V78 := RT.ag rt hMV (show agr [(0, 92)] [] V V78 from (agr.up agr.rf hV78 rfl)) ⟨⟨rfl, fun _ => rfl, fun _ => rfl, fun _ => rfl, fun _ => rfl, fun _ => rfl, fun _ => rfl⟩, by decide, by decide, rfl, rfl, fun _ => rfl, fun _ => rfl, fun _ => rfl, fun _ => rfl, fun _ => rfl, fun _ => rfl⟩ (c0k.ag (show agr [(0, 92)] [] V V78 from (agr.up agr.rf hV78 rfl)) rfl)
              have fm90 : FRM V V78 (-1) := ((FRM.ag (show agr [(0, 92)] [] V V78 from (agr.up agr.rf hV78 rfl)) ⟨⟨rfl, fun _ => rfl, fun _ => rfl, fun _ => rfl, fun _ => rfl, fun _ => rfl, fun _ => rfl⟩, by decide, by decide, rfl, rfl, fun _ => rfl, fun _ => rfl, fun _ => rfl, fun _ => rfl, fun _ => rfl, fun _ => rfl⟩) : FRM V V78 (-1))
              have rj91 : RJm V78 gB := RJm.ag rj (show agr [(0, 92)] [] V V78 from (agr.up agr.rf hV78 rfl)) (by decide)
              have pk92 : PLK V V78 (V 0 98).toInt.toNat := (PLK.tr (PLK.rf : PLK V V (V 0 98).toInt.toNat) (PLK.ag (t := (V 0 98).toInt.toNat) (show agr [(0, 92)] [] V V78 from (agr.up agr.rf hV78 rfl)) (fun _ => rfl)) (Nat.le_refl _))
              have ht93 : TRs gB (seekM gB (mV V gs gt gu) ga gr gc gsc glv) (mV V78 1 gt gu, (nI (Int32.toNatClampNeg z25)), gr) := by rw [mV_ag (show agr [(0, 92)] [] V V78 from (agr.up agr.rf hV78 rfl)) (by decide)]; exact ht77
              have rp94 : DPc gB (seekM gB (mV V gs gt gu) ga gr gc gsc glv) V78 gr (0) (V78 0 92) (24 * (10 - (V 0 93).toInt) + ((grk gc.toNat : Nat) : Int)) := DPc.m0 (show TRs gB (seekM gB (mV V gs gt gu) ga gr gc gsc glv) (mV V78 1 gt gu, (V78 0 92), gr) from by have h9 := ht93; rw [show (nI (Int32.toNatClampNeg z25)) = (V78 0 92) from (nI_cl (by omega)).trans ((up2_s hV78)).symm] at h9; exact h9) (by decide)
              exact W.iret (v := 0) hx hb hr (fun t ht hW => ⟨⟨0, (V78, L), rfl, ⟨hMV78, agV78, rfl, (by decide), (show (V78 0 93).toInt = (V 0 93).toInt from by (first | exact om_570b691c1130 pq79 | omega)), (show (V78 0 98).toInt = (V 0 98).toInt from by (first | exact om_570b691c1130 pq80 | omega)), (show (V 0 60).toInt ≤ (V78 0 60).toInt from by (first | exact om_abdc88b0c8fc pq81 | omega)), (show (V 0 65).toInt ≤ (V78 0 65).toInt from by (first | exact om_abdc88b0c8fc pq82 | omega)), (show (V78 0 65).toInt - (V 0 65).toInt ≤ (V78 0 60).toInt - (V 0 60).toInt from by (first | exact om_3cbf875a340a pq81 pq82 | omega)), (show (V78 0 73).toInt + (V78 0 95).toInt - (V78 0 65).toInt ≤ (V 0 73).toInt + (V 0 95).toInt - (V 0 65).toInt from by (first | exact om_bff6d9a49583 pq82 pq83 pq84 | omega)), (show (V 0 73).toInt ≤ (V78 0 73).toInt from by (first | exact om_abdc88b0c8fc pq83 | omega)), (show (V 0 69).toInt ≤ (V78 0 69).toInt from by (first | exact om_abdc88b0c8fc pq85 | omega)), (show (V 0 95).toInt ≤ (V78 0 95).toInt from by (first | exact om_abdc88b0c8fc pq84 | omega)), (show (V78 0 95).toInt - (V 0 95).toInt ≤ (V78 0 65).toInt - (V 0 65).toInt from by (first | exact om_3cbf875a340a pq82 pq84 | omega)), (show (V78 0 76).toInt - (V78 0 69).toInt - (V78 0 73).toInt ≤ (V 0 76).toInt - (V 0 69).toInt - (V 0 73).toInt from by (first | exact om_fc0a03057b6c pq83 pq85 pq86 | omega)), (Imp.mk (fun _ => (show 0 ≤ (V78 0 92).toInt ∧ (V78 0 92).toInt < (V78 0 60).toInt from by (first | exact om_b0c18798cd6b t28 f70 pq81 pq87 | omega)))), rp88, rt89, fm90, rj91, pk92, rp94⟩, by rw [ht]; exact hP, va_K.moved hW.alike hK, hD⟩, hS.F ht⟩) hS.2.2 dX12_gets_115
          · skip
            have f95 : ((V 63 (Int32.toNatClampNeg z25))).toInt = 0 := b_eq rfl (by decide) c72
            have ht96 : TRs gB (seekM gB (mV V gs gt gu) ga gr gc gsc glv) (mV V 2 0 12, ga, gr) := by rw [sk_u pl9 (by omega) ns9 (by omega) (show prs (mV V gs gt gu) z9.toInt gc (V 0 60).toInt.toNat = ((Int32.toNatClampNeg z25 : Nat) : Int) from by have h9 := i_clamp (x := z25) rfl (by (first | exact om_eafa9039069c f70 | omega)); rw [← ox9]; omega) (show ¬ (V 63 _).toInt = 1 from by omega), mV_fail]; exact TRs.rf
            refine lv_aload_n hx hb dX12_gets_96 rfl (lv_at hl 3 rfl) ?_
            refine lv_bipush (v := 12) hx hb dX12_gets_97 (by decide) ?_
            have r97 : Int32.toInt 12 = 12 := by decide
            refine gA_int (gA_runV (As := [.int 12]) (rest := []) (ci := 12) (q0 := 0) hx hb hml hown hg hP hD hK hS hA hnw hgk (s_fails3 l D ks H.size ad kk V L 12 hMV ) w2247 w2249 w131 w172 w2250 rfl rfl hdV_yX12_fails ⟨(by show (0) + 1 ≤ (4 * d1 + 40 * d2 + 15); (first | exact om_6a44aa5f39d7 n6 r7.2 | omega)), (by show 8 + (2 + 11) + (0) ≤ (100 * d1 + 1000 * d2 + 590); (first | exact om_a9f57f50f2a3 n6 r7.2 | omega))⟩ rfl hl.1 rfl (Nat.le_of_ble_eq_true rfl) dX12_gets_99 ⟨Nat.le_of_ble_eq_true rfl, Nat.le_of_ble_eq_true rfl⟩) hP hD hK hS hA (fun z98 u99 H locs w100 hP hD hK hS => ?_)
            obtain ⟨V103, L104⟩ := u99
            obtain ⟨hMV103, ajV103, axL104, rgz98, t101, t102⟩ := w100
            have axL104 : L = L104 := Eq.symm axL104
            subst axL104
            have hP : va_P D vwCl (mw ad kk ks.1 V103 L) H := hP
            have hD : va_D A (mw ad kk ks.1 V103 L) := hD
            have hMV103 : rgd bM V103 := hMV103
            have ajV103 : agr [(0, 90), (0, 91)] [] V V103 := ajV103
            have agV103 : agr [(0, 60), (0, 65), (0, 68), (0, 69), (0, 73), (0, 76), (0, 90), (0, 91), (0, 92), (0, 93), (0, 95), (0, 96), (0, 98)] [59, 61, 62, 63, 64, 66, 67, 74, 75, 77, 78, 79, 80, 94, 97] V V103 := agV.tr ajV103 (by decide) (by decide)
            have rgz98 : 1 ≤ z98.toInt ∧ z98.toInt ≤ 1 := rgz98
            have t101 : (V103 0 90).toInt = 0 := t101
            have t102 : (V103 0 91).toInt = (Int32.toInt 12) := t102
            have pq105 : (V103 0 93).toInt = ((V 0 93)).toInt := congrArg Int32.toInt (ajV103 0 93 rfl)
            have pq106 : (V103 0 98).toInt = ((V 0 98)).toInt := congrArg Int32.toInt (ajV103 0 98 rfl)
            have pq107 : (V103 0 60).toInt = ((V 0 60)).toInt := congrArg Int32.toInt (ajV103 0 60 rfl)
            have pq108 : (V103 0 65).toInt = ((V 0 65)).toInt := congrArg Int32.toInt (ajV103 0 65 rfl)
            have pq109 : (V103 0 73).toInt = ((V 0 73)).toInt := congrArg Int32.toInt (ajV103 0 73 rfl)
            have pq110 : (V103 0 95).toInt = ((V 0 95)).toInt := congrArg Int32.toInt (ajV103 0 95 rfl)
            have pq111 : (V103 0 69).toInt = ((V 0 69)).toInt := congrArg Int32.toInt (ajV103 0 69 rfl)
            have pq112 : (V103 0 76).toInt = ((V 0 76)).toInt := congrArg Int32.toInt (ajV103 0 76 rfl)
            have pq113 : (V103 0 92).toInt = ((V 0 92)).toInt := congrArg Int32.toInt (ajV103 0 92 rfl)
            have rt114 : RT V103 := RT.ag rt hMV (show agr [(0, 90), (0, 91)] [] V V103 from (agr.tr agr.rf ajV103 (by decide) (by decide))) ⟨⟨rfl, fun _ => rfl, fun _ => rfl, fun _ => rfl, fun _ => rfl, fun _ => rfl, fun _ => rfl⟩, by decide, by decide, rfl, rfl, fun _ => rfl, fun _ => rfl, fun _ => rfl, fun _ => rfl, fun _ => rfl, fun _ => rfl⟩ (c0k.ag (show agr [(0, 90), (0, 91)] [] V V103 from (agr.tr agr.rf ajV103 (by decide) (by decide))) rfl)
            have fm115 : FRM V V103 (-1) := ((FRM.ag (show agr [(0, 90), (0, 91)] [] V V103 from (agr.tr agr.rf ajV103 (by decide) (by decide))) ⟨⟨rfl, fun _ => rfl, fun _ => rfl, fun _ => rfl, fun _ => rfl, fun _ => rfl, fun _ => rfl⟩, by decide, by decide, rfl, rfl, fun _ => rfl, fun _ => rfl, fun _ => rfl, fun _ => rfl, fun _ => rfl, fun _ => rfl⟩) : FRM V V103 (-1))
            have rj116 : RJm V103 gB := RJm.ag rj (show agr [(0, 90), (0, 91)] [] V V103 from (agr.tr agr.rf ajV103 (by decide) (by decide))) (by decide)
            have pk117 : PLK V V103 (V 0 98).toInt.toNat := (PLK.tr (PLK.rf : PLK V V (V 0 98).toInt.toNat) (PLK.ag (t := (V 0 98).toInt.toNat) (show agr [(0, 90), (0, 91)] [] V V103 from (agr.tr agr.rf ajV103 (by decide) (by decide))) (fun _ => rfl)) (Nat.le_refl _))
            have ht118 : TRs gB (seekM gB (mV V gs gt gu) ga gr gc gsc glv) (mV V103 2 0 12, ga, gr) := by rw [mV_ag (show agr [(0, 90), (0, 91)] [] V V103 from (agr.tr agr.rf ajV103 (by decide) (by decide))) (by decide)]; exact ht96
            have rp119 : DPc gB (seekM gB (mV V gs gt gu) ga gr gc gsc glv) V103 gr (z98.toInt) (V103 0 92) (24 * (10 - (V 0 93).toInt) + ((grk gc.toNat : Nat) : Int)) := DPc.m1 ht118 (by (first | exact om_14b36ee974dd rgz98.1 rgz98.2 | omega)) (by (first | exact om_e43208099ff7 t101 | omega)) (by (first | exact om_18e392619206 r97 t102 | omega)) (by omega) (by (first | exact om_b88ff5295f31 r7.2 | omega))
            exact W.iret (v := z98) hx hb hr (fun t ht hW => ⟨⟨z98, (V103, L), rfl, ⟨hMV103, agV103, rfl, (show 0 ≤ z98.toInt ∧ z98.toInt ≤ 2 from by (first | exact om_4a983af70113 rgz98.1 rgz98.2 | omega)), (show (V103 0 93).toInt = (V 0 93).toInt from by (first | exact om_570b691c1130 pq105 | omega)), (show (V103 0 98).toInt = (V 0 98).toInt from by (first | exact om_570b691c1130 pq106 | omega)), (show (V 0 60).toInt ≤ (V103 0 60).toInt from by (first | exact om_abdc88b0c8fc pq107 | omega)), (show (V 0 65).toInt ≤ (V103 0 65).toInt from by (first | exact om_abdc88b0c8fc pq108 | omega)), (show (V103 0 65).toInt - (V 0 65).toInt ≤ (V103 0 60).toInt - (V 0 60).toInt from by (first | exact om_3cbf875a340a pq107 pq108 | omega)), (show (V103 0 73).toInt + (V103 0 95).toInt - (V103 0 65).toInt ≤ (V 0 73).toInt + (V 0 95).toInt - (V 0 65).toInt from by (first | exact om_bff6d9a49583 pq108 pq109 pq110 | omega)), (show (V 0 73).toInt ≤ (V103 0 73).toInt from by (first | exact om_abdc88b0c8fc pq109 | omega)), (show (V 0 69).toInt ≤ (V103 0 69).toInt from by (first | exact om_abdc88b0c8fc pq111 | omega)), (show (V 0 95).toInt ≤ (V103 0 95).toInt from by (first | exact om_abdc88b0c8fc pq110 | omega)), (show (V103 0 95).toInt - (V 0 95).toInt ≤ (V103 0 65).toInt - (V 0 65).toInt from by (first | exact om_3cbf875a340a pq108 pq110 | omega)), (show (V103 0 76).toInt - (V103 0 69).toInt - (V103 0 73).toInt ≤ (V 0 76).toInt - (V 0 69).toInt - (V 0 73).toInt from by (first | exact om_fc0a03057b6c pq109 pq111 pq112 | omega)), (Imp.mk (fun hp => have hp : z98.toInt = 0 := hp; (show 0 ≤ (V103 0 92).toInt ∧ (V103 0 92).toInt < (V103 0 60).toInt from by omega))), (Imp.mk (fun h9 => by exfalso; omega)), rt114, fm115, rj116, pk117, rp119⟩, by rw [ht]; exact hP, va_K.moved hW.alike hK, hD⟩, hS.F ht⟩) hS.2.2 dX12_gets_102
      · skip
        have f120 : ((V 59 (Int32.toNatClampNeg z21))).toInt ≠ 0 := b_neq rfl (by decide) c23
        have ht121 : TRs gB (seekM gB (mV V gs gt gu) ga gr gc gsc glv) (mV V 2 0 15, ga, gr) := by rw [sk_s pl9 (by omega) (show (V 59 _).toInt ≠ 0 from by rw [← kz9]; omega), mV_fail]; exact TRs.rf
        refine lv_aload_n hx hb dX12_gets_57 rfl (lv_at hl 2 rfl) ?_
        refine lv_bipush (v := 15) hx hb dX12_gets_58 (by decide) ?_
        have r122 : Int32.toInt 15 = 15 := by decide
        refine gA_int (gA_runV (As := [.int 15]) (rest := []) (ci := 12) (q0 := 0) hx hb hml hown hg hP hD hK hS hA hnw hgk (s_fails3 l D ks H.size ad kk V L 15 hMV ) w2247 w2249 w131 w172 w2250 rfl rfl hdV_yX12_fails ⟨(by show (0) + 1 ≤ (4 * d1 + 40 * d2 + 15); (first | exact om_6a44aa5f39d7 n6 r7.2 | omega)), (by show 8 + (2 + 11) + (0) ≤ (100 * d1 + 1000 * d2 + 590); (first | exact om_a9f57f50f2a3 n6 r7.2 | omega))⟩ rfl hl.1 rfl (Nat.le_of_ble_eq_true rfl) dX12_gets_60 ⟨Nat.le_of_ble_eq_true rfl, Nat.le_of_ble_eq_true rfl⟩) hP hD hK hS hA (fun z123 u124 H locs w125 hP hD hK hS => ?_)
        obtain ⟨V128, L129⟩ := u124
        obtain ⟨hMV128, ajV128, axL129, rgz123, t126, t127⟩ := w125
        have axL129 : L = L129 := Eq.symm axL129
        subst axL129
        have hP : va_P D vwCl (mw ad kk ks.1 V128 L) H := hP
        have hD : va_D A (mw ad kk ks.1 V128 L) := hD
        have hMV128 : rgd bM V128 := hMV128
        have ajV128 : agr [(0, 90), (0, 91)] [] V V128 := ajV128
        have agV128 : agr [(0, 60), (0, 65), (0, 68), (0, 69), (0, 73), (0, 76), (0, 90), (0, 91), (0, 92), (0, 93), (0, 95), (0, 96), (0, 98)] [59, 61, 62, 63, 64, 66, 67, 74, 75, 77, 78, 79, 80, 94, 97] V V128 := agV.tr ajV128 (by decide) (by decide)
        have rgz123 : 1 ≤ z123.toInt ∧ z123.toInt ≤ 1 := rgz123
        have t126 : (V128 0 90).toInt = 0 := t126
        have t127 : (V128 0 91).toInt = (Int32.toInt 15) := t127
        have pq130 : (V128 0 93).toInt = ((V 0 93)).toInt := congrArg Int32.toInt (ajV128 0 93 rfl)
        have pq131 : (V128 0 98).toInt = ((V 0 98)).toInt := congrArg Int32.toInt (ajV128 0 98 rfl)
        have pq132 : (V128 0 60).toInt = ((V 0 60)).toInt := congrArg Int32.toInt (ajV128 0 60 rfl)
        have pq133 : (V128 0 65).toInt = ((V 0 65)).toInt := congrArg Int32.toInt (ajV128 0 65 rfl)
        have pq134 : (V128 0 73).toInt = ((V 0 73)).toInt := congrArg Int32.toInt (ajV128 0 73 rfl)
        have pq135 : (V128 0 95).toInt = ((V 0 95)).toInt := congrArg Int32.toInt (ajV128 0 95 rfl)
        have pq136 : (V128 0 69).toInt = ((V 0 69)).toInt := congrArg Int32.toInt (ajV128 0 69 rfl)
        have pq137 : (V128 0 76).toInt = ((V 0 76)).toInt := congrArg Int32.toInt (ajV128 0 76 rfl)
        have pq138 : (V128 0 92).toInt = ((V 0 92)).toInt := congrArg Int32.toInt (ajV128 0 92 rfl)
        have rt139 : RT V128 := RT.ag rt hMV (show agr [(0, 90), (0, 91)] [] V V128 from (agr.tr agr.rf ajV128 (by decide) (by decide))) ⟨⟨rfl, fun _ => rfl, fun _ => rfl, fun _ => rfl, fun _ => rfl, fun _ => rfl, fun _ => rfl⟩, by decide, by decide, rfl, rfl, fun _ => rfl, fun _ => rfl, fun _ => rfl, fun _ => rfl, fun _ => rfl, fun _ => rfl⟩ (c0k.ag (show agr [(0, 90), (0, 91)] [] V V128 from (agr.tr agr.rf ajV128 (by decide) (by decide))) rfl)
        have fm140 : FRM V V128 (-1) := ((FRM.ag (show agr [(0, 90), (0, 91)] [] V V128 from (agr.tr agr.rf ajV128 (by decide) (by decide))) ⟨⟨rfl, fun _ => rfl, fun _ => rfl, fun _ => rfl, fun _ => rfl, fun _ => rfl, fun _ => rfl⟩, by decide, by decide, rfl, rfl, fun _ => rfl, fun _ => rfl, fun _ => rfl, fun _ => rfl, fun _ => rfl, fun _ => rfl⟩) : FRM V V128 (-1))
        have rj141 : RJm V128 gB := RJm.ag rj (show agr [(0, 90), (0, 91)] [] V V128 from (agr.tr agr.rf ajV128 (by decide) (by decide))) (by decide)
        have pk142 : PLK V V128 (V 0 98).toInt.toNat := (PLK.tr (PLK.rf : PLK V V (V 0 98).toInt.toNat) (PLK.ag (t := (V 0 98).toInt.toNat) (show agr [(0, 90), (0, 91)] [] V V128 from (agr.tr agr.rf ajV128 (by decide) (by decide))) (fun _ => rfl)) (Nat.le_refl _))
        have ht143 : TRs gB (seekM gB (mV V gs gt gu) ga gr gc gsc glv) (mV V128 2 0 15, ga, gr) := by rw [mV_ag (show agr [(0, 90), (0, 91)] [] V V128 from (agr.tr agr.rf ajV128 (by decide) (by decide))) (by decide)]; exact ht121
        have rp144 : DPc gB (seekM gB (mV V gs gt gu) ga gr gc gsc glv) V128 gr (z123.toInt) (V128 0 92) (24 * (10 - (V 0 93).toInt) + ((grk gc.toNat : Nat) : Int)) := DPc.m1 ht143 (by (first | exact om_14b36ee974dd rgz123.1 rgz123.2 | omega)) (by (first | exact om_e43208099ff7 t126 | omega)) (by (first | exact om_92fb8cd53297 r122 t127 | omega)) (by omega) (by (first | exact om_b88ff5295f31 r7.2 | omega))
        exact W.iret (v := z123) hx hb hr (fun t ht hW => ⟨⟨z123, (V128, L), rfl, ⟨hMV128, agV128, rfl, (show 0 ≤ z123.toInt ∧ z123.toInt ≤ 2 from by (first | exact om_4a983af70113 rgz123.1 rgz123.2 | omega)), (show (V128 0 93).toInt = (V 0 93).toInt from by (first | exact om_570b691c1130 pq130 | omega)), (show (V128 0 98).toInt = (V 0 98).toInt from by (first | exact om_570b691c1130 pq131 | omega)), (show (V 0 60).toInt ≤ (V128 0 60).toInt from by (first | exact om_abdc88b0c8fc pq132 | omega)), (show (V 0 65).toInt ≤ (V128 0 65).toInt from by (first | exact om_abdc88b0c8fc pq133 | omega)), (show (V128 0 65).toInt - (V 0 65).toInt ≤ (V128 0 60).toInt - (V 0 60).toInt from by (first | exact om_3cbf875a340a pq132 pq133 | omega)), (show (V128 0 73).toInt + (V128 0 95).toInt - (V128 0 65).toInt ≤ (V 0 73).toInt + (V 0 95).toInt - (V 0 65).toInt from by (first | exact om_bff6d9a49583 pq133 pq134 pq135 | omega)), (show (V 0 73).toInt ≤ (V128 0 73).toInt from by (first | exact om_abdc88b0c8fc pq134 | omega)), (show (V 0 69).toInt ≤ (V128 0 69).toInt from by (first | exact om_abdc88b0c8fc pq136 | omega)), (show (V 0 95).toInt ≤ (V128 0 95).toInt from by (first | exact om_abdc88b0c8fc pq135 | omega)), (show (V128 0 95).toInt - (V 0 95).toInt ≤ (V128 0 65).toInt - (V 0 65).toInt from by (first | exact om_3cbf875a340a pq133 pq135 | omega)), (show (V128 0 76).toInt - (V128 0 69).toInt - (V128 0 73).toInt ≤ (V 0 76).toInt - (V 0 69).toInt - (V 0 73).toInt from by (first | exact om_fc0a03057b6c pq134 pq136 pq137 | omega)), (Imp.mk (fun hp => have hp : z123.toInt = 0 := hp; (show 0 ≤ (V128 0 92).toInt ∧ (V128 0 92).toInt < (V128 0 60).toInt from by omega))), (Imp.mk (fun h9 => by exfalso; omega)), rt139, fm140, rj141, pk142, rp144⟩, by rw [ht]; exact hP, va_K.moved hW.alike hK, hD⟩, hS.F ht⟩) hS.2.2 dX12_gets_63
    · skip
      have f145 : ((V 22 (Int32.toNatClampNeg z17))).toInt = 3 := b_eq rfl (by decide) c18
      refine lv_iconst (v := 1) hx hb dX12_gets_36 (by decide) ?_
      refine lv_goto (tgt := 41) hx hb dX12_gets_37 (by decide) ?_
      refine lv_istore (lv' := [(4, .int 1), (3, .int z9), (0, .ref (ad 0)), (1, .int p0), (2, .int p1)]) hx hb dX12_gets_41 hl (by decide) rfl (fun ls hl => ?_)
      refine lv_aload_n hx hb dX12_gets_43 rfl (lv_at hl 2 rfl) ?_
      refine va_get (D := D) (ci := 12) (v := .ref (ad 59)) (C := RX12) (T := TX12) (N := 100) hx hb hg inX12 hown hK hP 0 rfl rfl 59 (by decide) (hg _ w1765) (fun _ h9 => h9) rfl dX12_gets_44 ?_
      refine lv_bipush (v := 24) hx hb dX12_gets_47 (by decide) ?_
      refine lv_iload_n hx hb dX12_gets_49 rfl (lv_at hl 1 rfl) ?_
      refine lv_imul hx hb dX12_gets_50 ?_
      refine lv_topi (fun z146 ez146 => ?_)
      have hz146 : z146.toInt = 24 * z9.toInt := i_mul ez146 (by decide) rfl (by (first | exact om_3b98457e2d8a rgz9.2 f14 | omega))
      refine lv_iload_n hx hb dX12_gets_51 rfl (lv_at hl 3 rfl) ?_
      refine lv_iadd hx hb dX12_gets_52 ?_
      refine lv_topi (fun z147 ez147 => ?_)
      have hz147 : z147.toInt = z146.toInt + p0.toInt := i_add ez147 rfl rfl (by (first | exact om_f1d4697d758d rg_p0.1 rg_p0.2 rgz9.2 f14 hz146 | omega))
      have kz9 : Int32.toNatClampNeg z147 = 24 * z9.toInt.toNat + gc.toNat := by have h9 := i_clamp (x := z147) rfl (by (first | exact om_11587583f9f8 rg_p0.1 f14 hz146 hz147 | omega)); rw [gc9]; omega
      refine va_zald (D := D) (i := z147) hx hb hK hP 45 44 rfl rfl (i_in (a := z147.toInt) rfl (by (first | exact om_b108857776dc rg_p0.1 rg_p0.2 rgz9.2 f14 hz146 hz147 | omega))) dX12_gets_53 ?_
      have r148 : 0 ≤ ((V 59 (Int32.toNatClampNeg z147))).toInt ∧ ((V 59 (Int32.toNatClampNeg z147))).toInt ≤ 1 := hMV 59 (Int32.toNatClampNeg z147)
      refine lv_if_eq (tgt := 64) hx hb dX12_gets_54 (by decide) (fun c149 => ?_) (fun c149 => ?_)
      · skip
        have f150 : ((V 59 (Int32.toNatClampNeg z147))).toInt = 0 := b_eq rfl (by decide) c149
        have ns9 : ¬ mV V gs gt gu 8 (24 * z9.toInt.toNat + gc.toNat) ≠ 0 := fun h9 => h9 (show (V 59 _).toInt = 0 from by rw [← kz9]; omega)
        refine lv_iload hx hb dX12_gets_64 (lv_at hl 0 rfl) ?_
        refine lv_if_eq (tgt := 73) hx hb dX12_gets_66 (by decide) (fun q => absurd q (by decide)) (fun _ => ?_)
        refine lv_iconst (v := (-1)) hx hb dX12_gets_69 (by decide) ?_
        refine lv_goto (tgt := 79) hx hb dX12_gets_70 (by decide) ?_
        refine lv_istore (lv' := [(5, .int (-1)), (4, .int 1), (3, .int z9), (0, .ref (ad 0)), (1, .int p0), (2, .int p1)]) hx hb dX12_gets_79 hl (by decide) rfl (fun ls hl => ?_)
        refine lv_iload hx hb dX12_gets_81 (lv_at hl 0 rfl) ?_
        refine lv_if_lt (tgt := 103) hx hb dX12_gets_83 (by decide) (fun _ => ?_) (fun q => absurd (by decide) q)
        refine lv_iload hx hb dX12_gets_103 (lv_at hl 0 rfl) ?_
        refine lv_if_lt (tgt := 116) hx hb dX12_gets_105 (by decide) (fun _ => ?_) (fun q => absurd (by decide) q)
        refine lv_aload_n hx hb dX12_gets_116 rfl (lv_at hl 3 rfl) ?_
        refine lv_iload_n hx hb dX12_gets_117 rfl (lv_at hl 4 rfl) ?_
        refine lv_iload_n hx hb dX12_gets_118 rfl (lv_at hl 2 rfl) ?_
        refine lv_iload hx hb dX12_gets_119 (lv_at hl 1 rfl) ?_
        have r151 : Int32.toInt 1 = 1 := by decide
        refine gA_int (gA_runV (As := [.int p0, .int z9, .int 1]) (rest := []) (ci := 12) (q0 := 0) hx hb hml hown hg hP hD hK hS hA hnw hgk (hk_s_makesD H.size ad kk V L p0 z9 1 (gB) (grk) (gr) (ga) (gs) (gt) (gu) (glv) (go) (gc) ((z9.toInt)) (gme) hMV (by (first | exact om_d3435e1acec6 rg_p0.1 rg_p0.2 | omega)) (by (first | exact om_8588804ef24d rgz9.2 f14 | omega)) (by decide) rt (show (V 0 65).toInt ≤ (V 0 60).toInt from by (first | exact om_f4906d00fa52 n1 | omega)) (show (V 0 95).toInt ≤ (V 0 65).toInt from by (first | exact om_f4906d00fa52 n2 | omega)) (show (V 0 73).toInt + (V 0 95).toInt - (V 0 65).toInt ≤ 999000 from by (first | exact om_947a8f2a0e3a n3 | omega)) (show (V 0 76).toInt - (V 0 69).toInt - (V 0 73).toInt ≤ 1000000000 from by (first | exact om_be9b7bdfab02 n4 | omega)) (show 300 - (V 0 60).toInt ≤ ((d1 : Nat) : Int) from by (first | exact om_a00d5de16f2e n5 | omega)) (show 10 - (V 0 93).toInt ≤ ((d2 : Nat) : Int) from by (first | exact om_e2c7f9016405 n6 | omega)) bk br rj hs9 (show (((gr).length : Nat) : Int) ≤ 28 * (V 0 93).toInt + 24 - (((grk) (gc).toNat : Nat) : Int) from by (first | exact om_bba00cc93c07 hl9 | omega)) (show ((totP (gr) : Nat) : Int) ≤ 84 * (V 0 93).toInt from by (first | exact om_258a92502e67 hp9 | omega)) (show (V 0 98).toInt + 400 * ((d2 : Nat) : Int) + 30 ≤ 19000 from by (first | exact om_dbdb2869bf85 n7 | omega)) tq (show (V 0 93).toInt = (glv) from by (first | exact om_570b691c1130 zl9 | omega)) (show p0.toInt = (gc) from by (first | exact om_570b691c1130 zc9 | omega)) (show z9.toInt = ((z9.toInt)) from by (first | exact om_4c2c879c4424 | omega)) ⟨fun h9 => by first | omega | exact absurd h9 (by decide), fun h9 => by first | rfl | (exfalso; omega)⟩) w2255 w2257 w133 w172 w2258 rfl rfl hdV_yX12_makes ⟨(by show (4 * (d1) + 40 * (d2) + 14) + 1 ≤ (4 * d1 + 40 * d2 + 15); (first | exact om_a14fe9afdc0a | omega)), (by show 8 + (6 + 11) + (100 * (d1) + 1000 * (d2) + 560) ≤ (100 * d1 + 1000 * d2 + 590); (first | exact om_0fc53bc74133 | omega))⟩ rfl hl.1 rfl (Nat.le_of_ble_eq_true rfl) dX12_gets_121 ⟨Nat.le_of_ble_eq_true rfl, Nat.le_of_ble_eq_true rfl⟩) hP hD hK hS hA (fun z152 u153 H locs w154 hP hD hK hS => ?_)
        obtain ⟨V173, L174⟩ := u153
        obtain ⟨hMV173, ajV173, axL174, rgz152, t155, t156, t157, t158, t159, t160, t161, t162, t163, t164, t165, t166, t167, t168, t169, t170, t171, t172⟩ := w154
        have axL174 : L = L174 := Eq.symm axL174
        subst axL174
        have hP : va_P D vwCl (mw ad kk ks.1 V173 L) H := hP
        have hD : va_D A (mw ad kk ks.1 V173 L) := hD
        have hMV173 : rgd bM V173 := hMV173
        have ajV173 : agr [(0, 60), (0, 65), (0, 68), (0, 69), (0, 73), (0, 76), (0, 90), (0, 91), (0, 92), (0, 93), (0, 95), (0, 96), (0, 98)] [59, 61, 62, 63, 64, 66, 67, 74, 75, 77, 78, 79, 80, 94, 97] V V173 := ajV173
        have agV173 : agr [(0, 60), (0, 65), (0, 68), (0, 69), (0, 73), (0, 76), (0, 90), (0, 91), (0, 92), (0, 93), (0, 95), (0, 96), (0, 98)] [59, 61, 62, 63, 64, 66, 67, 74, 75, 77, 78, 79, 80, 94, 97] V V173 := agV.tr ajV173 (by decide) (by decide)
        have rgz152 : 0 ≤ z152.toInt ∧ z152.toInt ≤ 2 := rgz152
        have t155 : (V173 0 93).toInt = (V 0 93).toInt := t155
        have t156 : (V173 0 98).toInt = (V 0 98).toInt := t156
        have t157 : (V 0 60).toInt ≤ (V173 0 60).toInt := t157
        have t158 : (V 0 65).toInt ≤ (V173 0 65).toInt := t158
        have t159 : (V173 0 65).toInt - (V 0 65).toInt ≤ (V173 0 60).toInt - (V 0 60).toInt := t159
        have t160 : (V173 0 73).toInt + (V173 0 95).toInt - (V173 0 65).toInt ≤ (V 0 73).toInt + (V 0 95).toInt - (V 0 65).toInt := t160
        have t161 : (V 0 73).toInt ≤ (V173 0 73).toInt := t161
        have t162 : (V 0 69).toInt ≤ (V173 0 69).toInt := t162
        have t163 : (V 0 95).toInt ≤ (V173 0 95).toInt := t163
        have t164 : (V173 0 95).toInt - (V 0 95).toInt ≤ (V173 0 65).toInt - (V 0 65).toInt := t164
        have t165 : (V173 0 76).toInt - (V173 0 69).toInt - (V173 0 73).toInt ≤ (V 0 76).toInt - (V 0 69).toInt - (V 0 73).toInt := t165
        have t166 : Imp (z152.toInt = 0) (0 ≤ (V173 0 92).toInt ∧ (V173 0 92).toInt < (V173 0 60).toInt) := t166
        have t167 : Imp (z152.toInt = 0) ((V173 61 (Int32.toNatClampNeg (V173 0 92))).toInt = p0.toInt ∧ 1 ≤ (V173 63 (Int32.toNatClampNeg (V173 0 92))).toInt) := t167
        have t168 : RT V173 := t168
        have t169 : FRM V V173 (-1) := t169
        have t170 : RJm V173 (gB) := t170
        have t171 : PLK V V173 (V 0 98).toInt.toNat := t171
        have t172 : DPc (gB) (makeM (mV V (gs) (gt) (gu)) (ga) (gr) (gc) ((z9.toInt)) (glv)) V173 (gr) z152.toInt (V173 0 92) (24 * (10 - (V 0 93).toInt) + (((grk) (gc).toNat : Nat) : Int)) := t172
        have r175 : 0 ≤ ((V173 0 93)).toInt ∧ ((V173 0 93)).toInt ≤ 10 := hMV173 0 93
        have r176 : 0 ≤ ((V173 0 98)).toInt ∧ ((V173 0 98)).toInt ≤ 20000 := hMV173 0 98
        have r177 : 0 ≤ ((V173 0 60)).toInt ∧ ((V173 0 60)).toInt ≤ 300 := hMV173 0 60
        have r178 : 0 ≤ ((V173 0 65)).toInt ∧ ((V173 0 65)).toInt ≤ 1000000 := hMV173 0 65
        have r179 : 0 ≤ ((V173 0 73)).toInt ∧ ((V173 0 73)).toInt ≤ 1000000 := hMV173 0 73
        have r180 : 0 ≤ ((V173 0 95)).toInt ∧ ((V173 0 95)).toInt ≤ 300 := hMV173 0 95
        have r181 : 0 ≤ ((V173 0 69)).toInt ∧ ((V173 0 69)).toInt ≤ 3000 := hMV173 0 69
        have r182 : 0 ≤ ((V173 0 76)).toInt ∧ ((V173 0 76)).toInt ≤ 2000000000 := hMV173 0 76
        have fm183 : FRM V V173 (-1) := (t169 : FRM V V173 (-1))
        have pk184 : PLK V V173 (V 0 98).toInt.toNat := (PLK.tr (PLK.rf : PLK V V (V 0 98).toInt.toNat) t171 (by (first | exact om_2b97926ac273 | omega)))
        have rp185 : DPc gB (seekM gB (mV V gs gt gu) ga gr gc gsc glv) V173 gr (z152.toInt) (V173 0 92) (24 * (10 - (V 0 93).toInt) + ((grk gc.toNat : Nat) : Int)) := by rw [sk_m pl9 (by omega) ns9 (Or.inl (by omega))]; exact t172
        exact W.iret (v := z152) hx hb hr (fun t ht hW => ⟨⟨z152, (V173, L), rfl, ⟨hMV173, agV173, rfl, (show 0 ≤ z152.toInt ∧ z152.toInt ≤ 2 from by first | exact om_8c285ac91b81 rgz152.1 rgz152.2 | first | omega | ((try (have i_t166 := Imp.go t166 (by omega))); omega)), (show (V173 0 93).toInt = (V 0 93).toInt from by first | exact om_570b691c1130 t155 | first | omega | ((try (have i_t166 := Imp.go t166 (by omega))); omega)), (show (V173 0 98).toInt = (V 0 98).toInt from by first | exact om_570b691c1130 t156 | first | omega | ((try (have i_t166 := Imp.go t166 (by omega))); omega)), (show (V 0 60).toInt ≤ (V173 0 60).toInt from by first | exact om_f4906d00fa52 t157 | first | omega | ((try (have i_t166 := Imp.go t166 (by omega))); omega)), (show (V 0 65).toInt ≤ (V173 0 65).toInt from by first | exact om_f4906d00fa52 t158 | first | omega | ((try (have i_t166 := Imp.go t166 (by omega))); omega)), (show (V173 0 65).toInt - (V 0 65).toInt ≤ (V173 0 60).toInt - (V 0 60).toInt from by first | exact om_b36b2a007ba2 t159 | first | omega | ((try (have i_t166 := Imp.go t166 (by omega))); omega)), (show (V173 0 73).toInt + (V173 0 95).toInt - (V173 0 65).toInt ≤ (V 0 73).toInt + (V 0 95).toInt - (V 0 65).toInt from by first | exact om_f04cba5a5a1f t160 | first | omega | ((try (have i_t166 := Imp.go t166 (by omega))); omega)), (show (V 0 73).toInt ≤ (V173 0 73).toInt from by first | exact om_f4906d00fa52 t161 | first | omega | ((try (have i_t166 := Imp.go t166 (by omega))); omega)), (show (V 0 69).toInt ≤ (V173 0 69).toInt from by first | exact om_f4906d00fa52 t162 | first | omega | ((try (have i_t166 := Imp.go t166 (by omega))); omega)), (show (V 0 95).toInt ≤ (V173 0 95).toInt from by first | exact om_f4906d00fa52 t163 | first | omega | ((try (have i_t166 := Imp.go t166 (by omega))); omega)), (show (V173 0 95).toInt - (V 0 95).toInt ≤ (V173 0 65).toInt - (V 0 65).toInt from by first | exact om_97b857202b58 t160 t161 | first | omega | ((try (have i_t166 := Imp.go t166 (by omega))); omega)), (show (V173 0 76).toInt - (V173 0 69).toInt - (V173 0 73).toInt ≤ (V 0 76).toInt - (V 0 69).toInt - (V 0 73).toInt from by first | exact om_f1910009b5d0 t165 | first | omega | ((try (have i_t166 := Imp.go t166 (by omega))); omega)), (Imp.mk (fun hp => have hp : z152.toInt = 0 := hp; (show 0 ≤ (V173 0 92).toInt ∧ (V173 0 92).toInt < (V173 0 60).toInt from by first | exact om_a1ce77cc111f ((Imp.go t166 (hp)).1) ((Imp.go t166 (hp)).2) | first | omega | ((try (have i_t166 := Imp.go t166 (by omega))); omega)))), t167, t168, fm183, t170, pk184, rp185⟩, by rw [ht]; exact hP, va_K.moved hW.alike hK, hD⟩, hS.F ht⟩) hS.2.2 dX12_gets_124
      · skip
        have f186 : ((V 59 (Int32.toNatClampNeg z147))).toInt ≠ 0 := b_neq rfl (by decide) c149
        have ht187 : TRs gB (seekM gB (mV V gs gt gu) ga gr gc gsc glv) (mV V 2 0 15, ga, gr) := by rw [sk_s pl9 (by omega) (show (V 59 _).toInt ≠ 0 from by rw [← kz9]; omega), mV_fail]; exact TRs.rf
        refine lv_aload_n hx hb dX12_gets_57 rfl (lv_at hl 2 rfl) ?_
        refine lv_bipush (v := 15) hx hb dX12_gets_58 (by decide) ?_
        have r188 : Int32.toInt 15 = 15 := by decide
        refine gA_int (gA_runV (As := [.int 15]) (rest := []) (ci := 12) (q0 := 0) hx hb hml hown hg hP hD hK hS hA hnw hgk (s_fails3 l D ks H.size ad kk V L 15 hMV ) w2247 w2249 w131 w172 w2250 rfl rfl hdV_yX12_fails ⟨(by show (0) + 1 ≤ (4 * d1 + 40 * d2 + 15); (first | exact om_6a44aa5f39d7 n6 r7.2 | omega)), (by show 8 + (2 + 11) + (0) ≤ (100 * d1 + 1000 * d2 + 590); (first | exact om_a9f57f50f2a3 n6 r7.2 | omega))⟩ rfl hl.1 rfl (Nat.le_of_ble_eq_true rfl) dX12_gets_60 ⟨Nat.le_of_ble_eq_true rfl, Nat.le_of_ble_eq_true rfl⟩) hP hD hK hS hA (fun z189 u190 H locs w191 hP hD hK hS => ?_)
        obtain ⟨V194, L195⟩ := u190
        obtain ⟨hMV194, ajV194, axL195, rgz189, t192, t193⟩ := w191
        have axL195 : L = L195 := Eq.symm axL195
        subst axL195
        have hP : va_P D vwCl (mw ad kk ks.1 V194 L) H := hP
        have hD : va_D A (mw ad kk ks.1 V194 L) := hD
        have hMV194 : rgd bM V194 := hMV194
        have ajV194 : agr [(0, 90), (0, 91)] [] V V194 := ajV194
        have agV194 : agr [(0, 60), (0, 65), (0, 68), (0, 69), (0, 73), (0, 76), (0, 90), (0, 91), (0, 92), (0, 93), (0, 95), (0, 96), (0, 98)] [59, 61, 62, 63, 64, 66, 67, 74, 75, 77, 78, 79, 80, 94, 97] V V194 := agV.tr ajV194 (by decide) (by decide)
        have rgz189 : 1 ≤ z189.toInt ∧ z189.toInt ≤ 1 := rgz189
        have t192 : (V194 0 90).toInt = 0 := t192
        have t193 : (V194 0 91).toInt = (Int32.toInt 15) := t193
        have pq196 : (V194 0 93).toInt = ((V 0 93)).toInt := congrArg Int32.toInt (ajV194 0 93 rfl)
        have pq197 : (V194 0 98).toInt = ((V 0 98)).toInt := congrArg Int32.toInt (ajV194 0 98 rfl)
        have pq198 : (V194 0 60).toInt = ((V 0 60)).toInt := congrArg Int32.toInt (ajV194 0 60 rfl)
        have pq199 : (V194 0 65).toInt = ((V 0 65)).toInt := congrArg Int32.toInt (ajV194 0 65 rfl)
        have pq200 : (V194 0 73).toInt = ((V 0 73)).toInt := congrArg Int32.toInt (ajV194 0 73 rfl)
        have pq201 : (V194 0 95).toInt = ((V 0 95)).toInt := congrArg Int32.toInt (ajV194 0 95 rfl)
        have pq202 : (V194 0 69).toInt = ((V 0 69)).toInt := congrArg Int32.toInt (ajV194 0 69 rfl)
        have pq203 : (V194 0 76).toInt = ((V 0 76)).toInt := congrArg Int32.toInt (ajV194 0 76 rfl)
        have pq204 : (V194 0 92).toInt = ((V 0 92)).toInt := congrArg Int32.toInt (ajV194 0 92 rfl)
        have rt205 : RT V194 := RT.ag rt hMV (show agr [(0, 90), (0, 91)] [] V V194 from (agr.tr agr.rf ajV194 (by decide) (by decide))) ⟨⟨rfl, fun _ => rfl, fun _ => rfl, fun _ => rfl, fun _ => rfl, fun _ => rfl, fun _ => rfl⟩, by decide, by decide, rfl, rfl, fun _ => rfl, fun _ => rfl, fun _ => rfl, fun _ => rfl, fun _ => rfl, fun _ => rfl⟩ (c0k.ag (show agr [(0, 90), (0, 91)] [] V V194 from (agr.tr agr.rf ajV194 (by decide) (by decide))) rfl)
        have fm206 : FRM V V194 (-1) := ((FRM.ag (show agr [(0, 90), (0, 91)] [] V V194 from (agr.tr agr.rf ajV194 (by decide) (by decide))) ⟨⟨rfl, fun _ => rfl, fun _ => rfl, fun _ => rfl, fun _ => rfl, fun _ => rfl, fun _ => rfl⟩, by decide, by decide, rfl, rfl, fun _ => rfl, fun _ => rfl, fun _ => rfl, fun _ => rfl, fun _ => rfl, fun _ => rfl⟩) : FRM V V194 (-1))
        have rj207 : RJm V194 gB := RJm.ag rj (show agr [(0, 90), (0, 91)] [] V V194 from (agr.tr agr.rf ajV194 (by decide) (by decide))) (by decide)
        have pk208 : PLK V V194 (V 0 98).toInt.toNat := (PLK.tr (PLK.rf : PLK V V (V 0 98).toInt.toNat) (PLK.ag (t := (V 0 98).toInt.toNat) (show agr [(0, 90), (0, 91)] [] V V194 from (agr.tr agr.rf ajV194 (by decide) (by decide))) (fun _ => rfl)) (Nat.le_refl _))
        have ht209 : TRs gB (seekM gB (mV V gs gt gu) ga gr gc gsc glv) (mV V194 2 0 15, ga, gr) := by rw [mV_ag (show agr [(0, 90), (0, 91)] [] V V194 from (agr.tr agr.rf ajV194 (by decide) (by decide))) (by decide)]; exact ht187
        have rp210 : DPc gB (seekM gB (mV V gs gt gu) ga gr gc gsc glv) V194 gr (z189.toInt) (V194 0 92) (24 * (10 - (V 0 93).toInt) + ((grk gc.toNat : Nat) : Int)) := DPc.m1 ht209 (by (first | exact om_14b36ee974dd rgz189.1 rgz189.2 | omega)) (by (first | exact om_e43208099ff7 t192 | omega)) (by (first | exact om_92fb8cd53297 r188 t193 | omega)) (by omega) (by (first | exact om_b88ff5295f31 r7.2 | omega))
        exact W.iret (v := z189) hx hb hr (fun t ht hW => ⟨⟨z189, (V194, L), rfl, ⟨hMV194, agV194, rfl, (show 0 ≤ z189.toInt ∧ z189.toInt ≤ 2 from by (first | exact om_4a983af70113 rgz189.1 rgz189.2 | omega)), (show (V194 0 93).toInt = (V 0 93).toInt from by (first | exact om_570b691c1130 pq196 | omega)), (show (V194 0 98).toInt = (V 0 98).toInt from by (first | exact om_570b691c1130 pq197 | omega)), (show (V 0 60).toInt ≤ (V194 0 60).toInt from by (first | exact om_abdc88b0c8fc pq198 | omega)), (show (V 0 65).toInt ≤ (V194 0 65).toInt from by (first | exact om_abdc88b0c8fc pq199 | omega)), (show (V194 0 65).toInt - (V 0 65).toInt ≤ (V194 0 60).toInt - (V 0 60).toInt from by (first | exact om_3cbf875a340a pq198 pq199 | omega)), (show (V194 0 73).toInt + (V194 0 95).toInt - (V194 0 65).toInt ≤ (V 0 73).toInt + (V 0 95).toInt - (V 0 65).toInt from by (first | exact om_bff6d9a49583 pq199 pq200 pq201 | omega)), (show (V 0 73).toInt ≤ (V194 0 73).toInt from by (first | exact om_abdc88b0c8fc pq200 | omega)), (show (V 0 69).toInt ≤ (V194 0 69).toInt from by (first | exact om_abdc88b0c8fc pq202 | omega)), (show (V 0 95).toInt ≤ (V194 0 95).toInt from by (first | exact om_abdc88b0c8fc pq201 | omega)), (show (V194 0 95).toInt - (V 0 95).toInt ≤ (V194 0 65).toInt - (V 0 65).toInt from by (first | exact om_3cbf875a340a pq199 pq201 | omega)), (show (V194 0 76).toInt - (V194 0 69).toInt - (V194 0 73).toInt ≤ (V 0 76).toInt - (V 0 69).toInt - (V 0 73).toInt from by (first | exact om_fc0a03057b6c pq200 pq202 pq203 | omega)), (Imp.mk (fun hp => have hp : z189.toInt = 0 := hp; (show 0 ≤ (V194 0 92).toInt ∧ (V194 0 92).toInt < (V194 0 60).toInt from by omega))), (Imp.mk (fun h9 => by exfalso; omega)), rt205, fm206, rj207, pk208, rp210⟩, by rw [ht]; exact hP, va_K.moved hW.alike hK, hD⟩, hS.F ht⟩) hS.2.2 dX12_gets_63
  · skip
    have f211 : z9.toInt < 0 := b_nle (by decide) rfl c13
    have ht212 : TRs gB (seekM gB (mV V gs gt gu) ga gr gc gsc glv) (mV V 2 0 14, ga, gr) := by rw [sk_p pl9 (by omega), mV_fail]; exact TRs.rf
    refine lv_aload_n hx hb dX12_gets_11 rfl (lv_at hl 1 rfl) ?_
    refine lv_bipush (v := 14) hx hb dX12_gets_12 (by decide) ?_
    have r213 : Int32.toInt 14 = 14 := by decide
    refine gA_int (gA_runV (As := [.int 14]) (rest := []) (ci := 12) (q0 := 0) hx hb hml hown hg hP hD hK hS hA hnw hgk (s_fails3 l D ks H.size ad kk V L 14 hMV ) w2247 w2249 w131 w172 w2250 rfl rfl hdV_yX12_fails ⟨(by show (0) + 1 ≤ (4 * d1 + 40 * d2 + 15); (first | exact om_6a44aa5f39d7 n6 r7.2 | omega)), (by show 8 + (2 + 11) + (0) ≤ (100 * d1 + 1000 * d2 + 590); (first | exact om_a9f57f50f2a3 n6 r7.2 | omega))⟩ rfl hl.1 rfl (Nat.le_of_ble_eq_true rfl) dX12_gets_14 ⟨Nat.le_of_ble_eq_true rfl, Nat.le_of_ble_eq_true rfl⟩) hP hD hK hS hA (fun z214 u215 H locs w216 hP hD hK hS => ?_)
    obtain ⟨V219, L220⟩ := u215
    obtain ⟨hMV219, ajV219, axL220, rgz214, t217, t218⟩ := w216
    have axL220 : L = L220 := Eq.symm axL220
    subst axL220
    have hP : va_P D vwCl (mw ad kk ks.1 V219 L) H := hP
    have hD : va_D A (mw ad kk ks.1 V219 L) := hD
    have hMV219 : rgd bM V219 := hMV219
    have ajV219 : agr [(0, 90), (0, 91)] [] V V219 := ajV219
    have agV219 : agr [(0, 60), (0, 65), (0, 68), (0, 69), (0, 73), (0, 76), (0, 90), (0, 91), (0, 92), (0, 93), (0, 95), (0, 96), (0, 98)] [59, 61, 62, 63, 64, 66, 67, 74, 75, 77, 78, 79, 80, 94, 97] V V219 := agV.tr ajV219 (by decide) (by decide)
    have rgz214 : 1 ≤ z214.toInt ∧ z214.toInt ≤ 1 := rgz214
    have t217 : (V219 0 90).toInt = 0 := t217
    have t218 : (V219 0 91).toInt = (Int32.toInt 14) := t218
    have pq221 : (V219 0 93).toInt = ((V 0 93)).toInt := congrArg Int32.toInt (ajV219 0 93 rfl)
    have pq222 : (V219 0 98).toInt = ((V 0 98)).toInt := congrArg Int32.toInt (ajV219 0 98 rfl)
    have pq223 : (V219 0 60).toInt = ((V 0 60)).toInt := congrArg Int32.toInt (ajV219 0 60 rfl)
    have pq224 : (V219 0 65).toInt = ((V 0 65)).toInt := congrArg Int32.toInt (ajV219 0 65 rfl)
    have pq225 : (V219 0 73).toInt = ((V 0 73)).toInt := congrArg Int32.toInt (ajV219 0 73 rfl)
    have pq226 : (V219 0 95).toInt = ((V 0 95)).toInt := congrArg Int32.toInt (ajV219 0 95 rfl)
    have pq227 : (V219 0 69).toInt = ((V 0 69)).toInt := congrArg Int32.toInt (ajV219 0 69 rfl)
    have pq228 : (V219 0 76).toInt = ((V 0 76)).toInt := congrArg Int32.toInt (ajV219 0 76 rfl)
    have pq229 : (V219 0 92).toInt = ((V 0 92)).toInt := congrArg Int32.toInt (ajV219 0 92 rfl)
    have rt230 : RT V219 := RT.ag rt hMV (show agr [(0, 90), (0, 91)] [] V V219 from (agr.tr agr.rf ajV219 (by decide) (by decide))) ⟨⟨rfl, fun _ => rfl, fun _ => rfl, fun _ => rfl, fun _ => rfl, fun _ => rfl, fun _ => rfl⟩, by decide, by decide, rfl, rfl, fun _ => rfl, fun _ => rfl, fun _ => rfl, fun _ => rfl, fun _ => rfl, fun _ => rfl⟩ (c0k.ag (show agr [(0, 90), (0, 91)] [] V V219 from (agr.tr agr.rf ajV219 (by decide) (by decide))) rfl)
    have fm231 : FRM V V219 (-1) := ((FRM.ag (show agr [(0, 90), (0, 91)] [] V V219 from (agr.tr agr.rf ajV219 (by decide) (by decide))) ⟨⟨rfl, fun _ => rfl, fun _ => rfl, fun _ => rfl, fun _ => rfl, fun _ => rfl, fun _ => rfl⟩, by decide, by decide, rfl, rfl, fun _ => rfl, fun _ => rfl, fun _ => rfl, fun _ => rfl, fun _ => rfl, fun _ => rfl⟩) : FRM V V219 (-1))
    have rj232 : RJm V219 gB := RJm.ag rj (show agr [(0, 90), (0, 91)] [] V V219 from (agr.tr agr.rf ajV219 (by decide) (by decide))) (by decide)
    have pk233 : PLK V V219 (V 0 98).toInt.toNat := (PLK.tr (PLK.rf : PLK V V (V 0 98).toInt.toNat) (PLK.ag (t := (V 0 98).toInt.toNat) (show agr [(0, 90), (0, 91)] [] V V219 from (agr.tr agr.rf ajV219 (by decide) (by decide))) (fun _ => rfl)) (Nat.le_refl _))
    have ht234 : TRs gB (seekM gB (mV V gs gt gu) ga gr gc gsc glv) (mV V219 2 0 14, ga, gr) := by rw [mV_ag (show agr [(0, 90), (0, 91)] [] V V219 from (agr.tr agr.rf ajV219 (by decide) (by decide))) (by decide)]; exact ht212
    have rp235 : DPc gB (seekM gB (mV V gs gt gu) ga gr gc gsc glv) V219 gr (z214.toInt) (V219 0 92) (24 * (10 - (V 0 93).toInt) + ((grk gc.toNat : Nat) : Int)) := DPc.m1 ht234 (by (first | exact om_14b36ee974dd rgz214.1 rgz214.2 | omega)) (by (first | exact om_e43208099ff7 t217 | omega)) (by (first | exact om_c82e1911b75c r213 t218 | omega)) (by omega) (by (first | exact om_b88ff5295f31 r7.2 | omega))
    exact W.iret (v := z214) hx hb hr (fun t ht hW => ⟨⟨z214, (V219, L), rfl, ⟨hMV219, agV219, rfl, (show 0 ≤ z214.toInt ∧ z214.toInt ≤ 2 from by (first | exact om_4a983af70113 rgz214.1 rgz214.2 | omega)), (show (V219 0 93).toInt = (V 0 93).toInt from by (first | exact om_570b691c1130 pq221 | omega)), (show (V219 0 98).toInt = (V 0 98).toInt from by (first | exact om_570b691c1130 pq222 | omega)), (show (V 0 60).toInt ≤ (V219 0 60).toInt from by (first | exact om_abdc88b0c8fc pq223 | omega)), (show (V 0 65).toInt ≤ (V219 0 65).toInt from by (first | exact om_abdc88b0c8fc pq224 | omega)), (show (V219 0 65).toInt - (V 0 65).toInt ≤ (V219 0 60).toInt - (V 0 60).toInt from by (first | exact om_3cbf875a340a pq223 pq224 | omega)), (show (V219 0 73).toInt + (V219 0 95).toInt - (V219 0 65).toInt ≤ (V 0 73).toInt + (V 0 95).toInt - (V 0 65).toInt from by (first | exact om_bff6d9a49583 pq224 pq225 pq226 | omega)), (show (V 0 73).toInt ≤ (V219 0 73).toInt from by (first | exact om_abdc88b0c8fc pq225 | omega)), (show (V 0 69).toInt ≤ (V219 0 69).toInt from by (first | exact om_abdc88b0c8fc pq227 | omega)), (show (V 0 95).toInt ≤ (V219 0 95).toInt from by (first | exact om_abdc88b0c8fc pq226 | omega)), (show (V219 0 95).toInt - (V 0 95).toInt ≤ (V219 0 65).toInt - (V 0 65).toInt from by (first | exact om_3cbf875a340a pq224 pq226 | omega)), (show (V219 0 76).toInt - (V219 0 69).toInt - (V219 0 73).toInt ≤ (V 0 76).toInt - (V 0 69).toInt - (V 0 73).toInt from by (first | exact om_fc0a03057b6c pq225 pq227 pq228 | omega)), (Imp.mk (fun hp => have hp : z214.toInt = 0 := hp; (show 0 ≤ (V219 0 92).toInt ∧ (V219 0 92).toInt < (V219 0 60).toInt from by omega))), (Imp.mk (fun h9 => by exfalso; omega)), rt230, fm231, rj232, pk233, rp235⟩, by rw [ht]; exact hP, va_K.moved hW.alike hK, hD⟩, hS.F ht⟩) hS.2.2 dX12_gets_17
