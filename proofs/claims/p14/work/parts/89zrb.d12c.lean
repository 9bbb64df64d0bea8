
theorem s_ofLateD {l : Launch} {D : va_G} {ks : KS} {d1 d2 : Nat} (hk_s_getsWholeD : ∀ d9, d2 = d9 + 1 → K_s_getsWholeD l D ks d1 d9) (hk_s_callsD : K_s_callsD l D ks d1 d2) : K_s_ofLateD l D ks d1 d2 := by
  intro sz ad kk V L p0 p1 p2 p3 p4 p5 gB grk gr ga gs gt gu glv go gc gsc gat gnd gtg gv gpz hMV rg_p0 rg_p1 rg_p2 rg_p3 rg_p4 rt n1 n2 n3 n4 n5 n6 bk br rj hl9 hp9 hg9 sg0 oq1 n7 nq lt nx2 zl9 zo9 zc9 zn9 zt9 zs9
  by_cases fr9 : bS gB ((bC gB gc.toNat gnd.toNat).headD 0) = 3
  · exact s_ofLateDf hk_s_getsWholeD hk_s_callsD sz ad kk V L p0 p1 p2 p3 p4 p5 gB grk gr ga gs gt gu glv go gc gsc gat gnd gtg gv gpz hMV rg_p0 rg_p1 rg_p2 rg_p3 rg_p4 rt n1 n2 n3 n4 n5 n6 bk br rj hl9 hp9 hg9 sg0 oq1 n7 nq lt nx2 zl9 zo9 zc9 zn9 zt9 zs9 fr9
  · exact s_ofLateDn hk_s_getsWholeD hk_s_callsD sz ad kk V L p0 p1 p2 p3 p4 p5 gB grk gr ga gs gt gu glv go gc gsc gat gnd gtg gv gpz hMV rg_p0 rg_p1 rg_p2 rg_p3 rg_p4 rt n1 n2 n3 n4 n5 n6 bk br rj hl9 hp9 hg9 sg0 oq1 n7 nq lt nx2 zl9 zo9 zc9 zn9 zt9 zs9 fr9
