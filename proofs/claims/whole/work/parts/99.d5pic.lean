/-! the new world, whole -/
section PN2
variable {D : va_G} {cA : Nat → ClassId} {ad : Nat → Nat} {H : Heap} {x y : Nat} {a : S8} {a9 : Nat → Nat}
set_option maxRecDepth 100000 in
set_option maxHeartbeats 4000000 in
theorem pic0 (h : va_P D vwCl (wX8 cA x a ++ wX9 cA y a9) H) : Pic (geo0 D cA ad x a y a9) s0 H := by
  have h8 := pl h
  have hX9 := pr h
  have hO8 : va_P D vwCl ([(x, (.inr (8, [.ref (a.1 12), .ref (a.1 11), .ref (a.1 10), .ref (a.1 9), .ref (a.1 8), .ref (a.1 7), .ref (a.1 6), .ref (a.1 5), .ref ((a.2.2 0).1 0), .ref (a.1 4), .int 0]) : va_E))]) H := fun k q hq => by
    cases k with
    | zero => cases hq; exact h8 0 _ rfl
    | succ k => simp at hq
  have t0 := pt h8
  have hS3 := pl t0
  have t1 := pr t0
  have hS2 := pl t1
  have t2 := pr t1
  have hS1 := pl t2
  have t3 := pr t2
  have hS0 := pl t3
  have t4 := pr t3
  have hAR := pl t4
  have t5 := pr t4
  have hRD := pl t5
  have t6 := pr t5
  have hTM := pl t6
  have t7 := pr t6
  have hCH := pl t7
  have t8 := pr t7
  have hMN := pl t8
  have t9 := pr t8
  have hM2 := pl t9
  have t10 := pr t9
  have hM1 := pl t10
  have t11 := pr t10
  have hM0 := pl t11
  have t12 := pr t11
  have hFI := t12
  have z0 := pc_O8 (cA := cA) (ad := ad) (x := x) (a := a) (y := y) (a9 := a9) hO8
  obtain ⟨z23, z24⟩ := pc_S3 (ad := ad) (x := x) (a := a) (y := y) (a9 := a9) hS3
  obtain ⟨z21, z22⟩ := pc_S2 (ad := ad) (x := x) (a := a) (y := y) (a9 := a9) hS2
  obtain ⟨z19, z20⟩ := pc_S1 (ad := ad) (x := x) (a := a) (y := y) (a9 := a9) hS1
  obtain ⟨z17, z18⟩ := pc_S0 (ad := ad) (x := x) (a := a) (y := y) (a9 := a9) hS0
  have z16 := pc_AR (cA := cA) (ad := ad) (x := x) (a := a) (y := y) (a9 := a9) hAR
  obtain ⟨z12, z13, z14, z15⟩ := pc_RD (ad := ad) (x := x) (a := a) (y := y) (a9 := a9) hRD
  obtain ⟨z9, z10, z11⟩ := pc_TM (ad := ad) (x := x) (a := a) (y := y) (a9 := a9) hTM
  obtain ⟨z6, z7, z8⟩ := pc_CH (ad := ad) (x := x) (a := a) (y := y) (a9 := a9) hCH
  obtain ⟨z2, z3, z4, z5⟩ := pc_MN (ad := ad) (x := x) (a := a) (y := y) (a9 := a9) hMN
  obtain ⟨z57, z58, z59, z60, z61, z62, z63, z64, z65, z66, z67, z68, z69, z70, z71, z72⟩ := pc_M2 (ad := ad) (x := x) (a := a) (y := y) (a9 := a9) hM2
  obtain ⟨z41, z42, z43, z44, z45, z46, z47, z48, z49, z50, z51, z52, z53, z54, z55, z56⟩ := pc_M1 (ad := ad) (x := x) (a := a) (y := y) (a9 := a9) hM1
  obtain ⟨z25, z26, z27, z28, z29, z30, z31, z32, z33, z34, z35, z36, z37, z38, z39, z40⟩ := pc_M0 (ad := ad) (x := x) (a := a) (y := y) (a9 := a9) hM0
  have z1 := pc_FI (cA := cA) (ad := ad) (x := x) (a := a) (y := y) (a9 := a9) hFI
  obtain ⟨z73, z74, z75, z76, z77, z78, z79, z80, z81, z82, z83, z84, z85⟩ := pc_X9 (ad := ad) (x := x) (a := a) (y := y) (a9 := a9) hX9
  intro c e hc
  match c, hc with
  | 0, hc =>
    cases (show SH[0]? = some (.inl (8, [.inl 1, .inl 25, .inl 41, .inl 57, .inl 2, .inl 6, .inl 9, .inl 12, .inl 13, .inl 16, .inr (4, 0)])) from rfl).symm.trans hc
    exact z0
  | 1, hc =>
    cases (show SH[1]? = some (.inr (.inl (3, 0, 7))) from rfl).symm.trans hc
    exact z1
  | 2, hc =>
    cases (show SH[2]? = some (.inl (1, [.inl 3, .inl 4, .inl 5])) from rfl).symm.trans hc
    exact z2
  | 3, hc =>
    cases (show SH[3]? = some (.inr (.inl (5, 0, 4))) from rfl).symm.trans hc
    exact z3
  | 4, hc =>
    cases (show SH[4]? = some (.inr (.inl (6, 0, 4))) from rfl).symm.trans hc
    exact z4
  | 5, hc =>
    cases (show SH[5]? = some (.inr (.inl (7, 0, 120))) from rfl).symm.trans hc
    exact z5
  | 6, hc =>
    cases (show SH[6]? = some (.inl (0, [.inl 7, .inl 8])) from rfl).symm.trans hc
    exact z6
  | 7, hc =>
    cases (show SH[7]? = some (.inr (.inr (.inl (0, 44)))) from rfl).symm.trans hc
    exact z7
  | 8, hc =>
    cases (show SH[8]? = some (.inr (.inr (.inl (1, 44)))) from rfl).symm.trans hc
    exact z8
  | 9, hc =>
    cases (show SH[9]? = some (.inl (7, [.inl 10, .inl 11, .inr (10, 0)])) from rfl).symm.trans hc
    exact z9
  | 10, hc =>
    cases (show SH[10]? = some (.inr (.inl (8, 0, 3))) from rfl).symm.trans hc
    exact z10
  | 11, hc =>
    cases (show SH[11]? = some (.inr (.inl (9, 0, 18))) from rfl).symm.trans hc
    exact z11
  | 12, hc =>
    cases (show SH[12]? = some (.inl (3, [.inl 13])) from rfl).symm.trans hc
    exact z12
  | 13, hc =>
    cases (show SH[13]? = some (.inl (6, [.inl 14, .inl 15, .inr (13, 0), .inr (13, 1), .inr (13, 2), .inr (13, 3)])) from rfl).symm.trans hc
    exact z13
  | 14, hc =>
    cases (show SH[14]? = some (.inr (.inl (11, 0, 120))) from rfl).symm.trans hc
    exact z14
  | 15, hc =>
    cases (show SH[15]? = some (.inr (.inl (12, 0, 120))) from rfl).symm.trans hc
    exact z15
  | 16, hc =>
    cases (show SH[16]? = some (.inr (.inr (.inr (3, 4, 17)))) from rfl).symm.trans hc
    exact z16
  | 17, hc =>
    cases (show SH[17]? = some (.inl (5, [.inl 18, .inr (14, 40), .inr (14, 41)])) from rfl).symm.trans hc
    exact z17
  | 18, hc =>
    cases (show SH[18]? = some (.inr (.inl (14, 0, 40))) from rfl).symm.trans hc
    exact z18
  | 19, hc =>
    cases (show SH[19]? = some (.inl (5, [.inl 20, .inr (15, 40), .inr (15, 41)])) from rfl).symm.trans hc
    exact z19
  | 20, hc =>
    cases (show SH[20]? = some (.inr (.inl (15, 0, 40))) from rfl).symm.trans hc
    exact z20
  | 21, hc =>
    cases (show SH[21]? = some (.inl (5, [.inl 22, .inr (16, 40), .inr (16, 41)])) from rfl).symm.trans hc
    exact z21
  | 22, hc =>
    cases (show SH[22]? = some (.inr (.inl (16, 0, 40))) from rfl).symm.trans hc
    exact z22
  | 23, hc =>
    cases (show SH[23]? = some (.inl (5, [.inl 24, .inr (17, 40), .inr (17, 41)])) from rfl).symm.trans hc
    exact z23
  | 24, hc =>
    cases (show SH[24]? = some (.inr (.inl (17, 0, 40))) from rfl).symm.trans hc
    exact z24
  | 25, hc =>
    cases (show SH[25]? = some (.inl (2, [.inl 26, .inl 27, .inl 28, .inr (0, 2), .inr (0, 0), .inr (0, 1)])) from rfl).symm.trans hc
    exact z25
  | 26, hc =>
    cases (show SH[26]? = some (.inr (.inl (0, 3, 30))) from rfl).symm.trans hc
    exact z26
  | 27, hc =>
    cases (show SH[27]? = some (.inr (.inr (.inr (2, 6, 29)))) from rfl).symm.trans hc
    exact z27
  | 28, hc =>
    cases (show SH[28]? = some (.inr (.inl (0, 255, 10))) from rfl).symm.trans hc
    exact z28
  | 29, hc =>
    cases (show SH[29]? = some (.inl (4, [.inl 30, .inr (0, 33), .inr (0, 34), .inr (0, 35), .inr (0, 36), .inr (0, 37), .inr (0, 38), .inr (0, 39)])) from rfl).symm.trans hc
    exact z29
  | 30, hc =>
    cases (show SH[30]? = some (.inr (.inl (0, 40, 30))) from rfl).symm.trans hc
    exact z30
  | 31, hc =>
    cases (show SH[31]? = some (.inl (4, [.inl 32, .inr (0, 70), .inr (0, 71), .inr (0, 72), .inr (0, 73), .inr (0, 74), .inr (0, 75), .inr (0, 76)])) from rfl).symm.trans hc
    exact z31
  | 32, hc =>
    cases (show SH[32]? = some (.inr (.inl (0, 77, 30))) from rfl).symm.trans hc
    exact z32
  | 33, hc =>
    cases (show SH[33]? = some (.inl (4, [.inl 34, .inr (0, 107), .inr (0, 108), .inr (0, 109), .inr (0, 110), .inr (0, 111), .inr (0, 112), .inr (0, 113)])) from rfl).symm.trans hc
    exact z33
  | 34, hc =>
    cases (show SH[34]? = some (.inr (.inl (0, 114, 30))) from rfl).symm.trans hc
    exact z34
  | 35, hc =>
    cases (show SH[35]? = some (.inl (4, [.inl 36, .inr (0, 144), .inr (0, 145), .inr (0, 146), .inr (0, 147), .inr (0, 148), .inr (0, 149), .inr (0, 150)])) from rfl).symm.trans hc
    exact z35
  | 36, hc =>
    cases (show SH[36]? = some (.inr (.inl (0, 151, 30))) from rfl).symm.trans hc
    exact z36
  | 37, hc =>
    cases (show SH[37]? = some (.inl (4, [.inl 38, .inr (0, 181), .inr (0, 182), .inr (0, 183), .inr (0, 184), .inr (0, 185), .inr (0, 186), .inr (0, 187)])) from rfl).symm.trans hc
    exact z37
  | 38, hc =>
    cases (show SH[38]? = some (.inr (.inl (0, 188, 30))) from rfl).symm.trans hc
    exact z38
  | 39, hc =>
    cases (show SH[39]? = some (.inl (4, [.inl 40, .inr (0, 218), .inr (0, 219), .inr (0, 220), .inr (0, 221), .inr (0, 222), .inr (0, 223), .inr (0, 224)])) from rfl).symm.trans hc
    exact z39
  | 40, hc =>
    cases (show SH[40]? = some (.inr (.inl (0, 225, 30))) from rfl).symm.trans hc
    exact z40
  | 41, hc =>
    cases (show SH[41]? = some (.inl (2, [.inl 42, .inl 43, .inl 44, .inr (1, 2), .inr (1, 0), .inr (1, 1)])) from rfl).symm.trans hc
    exact z41
  | 42, hc =>
    cases (show SH[42]? = some (.inr (.inl (1, 3, 30))) from rfl).symm.trans hc
    exact z42
  | 43, hc =>
    cases (show SH[43]? = some (.inr (.inr (.inr (2, 6, 45)))) from rfl).symm.trans hc
    exact z43
  | 44, hc =>
    cases (show SH[44]? = some (.inr (.inl (1, 255, 10))) from rfl).symm.trans hc
    exact z44
  | 45, hc =>
    cases (show SH[45]? = some (.inl (4, [.inl 46, .inr (1, 33), .inr (1, 34), .inr (1, 35), .inr (1, 36), .inr (1, 37), .inr (1, 38), .inr (1, 39)])) from rfl).symm.trans hc
    exact z45
  | 46, hc =>
    cases (show SH[46]? = some (.inr (.inl (1, 40, 30))) from rfl).symm.trans hc
    exact z46
  | 47, hc =>
    cases (show SH[47]? = some (.inl (4, [.inl 48, .inr (1, 70), .inr (1, 71), .inr (1, 72), .inr (1, 73), .inr (1, 74), .inr (1, 75), .inr (1, 76)])) from rfl).symm.trans hc
    exact z47
  | 48, hc =>
    cases (show SH[48]? = some (.inr (.inl (1, 77, 30))) from rfl).symm.trans hc
    exact z48
  | 49, hc =>
    cases (show SH[49]? = some (.inl (4, [.inl 50, .inr (1, 107), .inr (1, 108), .inr (1, 109), .inr (1, 110), .inr (1, 111), .inr (1, 112), .inr (1, 113)])) from rfl).symm.trans hc
    exact z49
  | 50, hc =>
    cases (show SH[50]? = some (.inr (.inl (1, 114, 30))) from rfl).symm.trans hc
    exact z50
  | 51, hc =>
    cases (show SH[51]? = some (.inl (4, [.inl 52, .inr (1, 144), .inr (1, 145), .inr (1, 146), .inr (1, 147), .inr (1, 148), .inr (1, 149), .inr (1, 150)])) from rfl).symm.trans hc
    exact z51
  | 52, hc =>
    cases (show SH[52]? = some (.inr (.inl (1, 151, 30))) from rfl).symm.trans hc
    exact z52
  | 53, hc =>
    cases (show SH[53]? = some (.inl (4, [.inl 54, .inr (1, 181), .inr (1, 182), .inr (1, 183), .inr (1, 184), .inr (1, 185), .inr (1, 186), .inr (1, 187)])) from rfl).symm.trans hc
    exact z53
  | 54, hc =>
    cases (show SH[54]? = some (.inr (.inl (1, 188, 30))) from rfl).symm.trans hc
    exact z54
  | 55, hc =>
    cases (show SH[55]? = some (.inl (4, [.inl 56, .inr (1, 218), .inr (1, 219), .inr (1, 220), .inr (1, 221), .inr (1, 222), .inr (1, 223), .inr (1, 224)])) from rfl).symm.trans hc
    exact z55
  | 56, hc =>
    cases (show SH[56]? = some (.inr (.inl (1, 225, 30))) from rfl).symm.trans hc
    exact z56
  | 57, hc =>
    cases (show SH[57]? = some (.inl (2, [.inl 58, .inl 59, .inl 60, .inr (2, 2), .inr (2, 0), .inr (2, 1)])) from rfl).symm.trans hc
    exact z57
  | 58, hc =>
    cases (show SH[58]? = some (.inr (.inl (2, 3, 30))) from rfl).symm.trans hc
    exact z58
  | 59, hc =>
    cases (show SH[59]? = some (.inr (.inr (.inr (2, 6, 61)))) from rfl).symm.trans hc
    exact z59
  | 60, hc =>
    cases (show SH[60]? = some (.inr (.inl (2, 255, 10))) from rfl).symm.trans hc
    exact z60
  | 61, hc =>
    cases (show SH[61]? = some (.inl (4, [.inl 62, .inr (2, 33), .inr (2, 34), .inr (2, 35), .inr (2, 36), .inr (2, 37), .inr (2, 38), .inr (2, 39)])) from rfl).symm.trans hc
    exact z61
  | 62, hc =>
    cases (show SH[62]? = some (.inr (.inl (2, 40, 30))) from rfl).symm.trans hc
    exact z62
  | 63, hc =>
    cases (show SH[63]? = some (.inl (4, [.inl 64, .inr (2, 70), .inr (2, 71), .inr (2, 72), .inr (2, 73), .inr (2, 74), .inr (2, 75), .inr (2, 76)])) from rfl).symm.trans hc
    exact z63
  | 64, hc =>
    cases (show SH[64]? = some (.inr (.inl (2, 77, 30))) from rfl).symm.trans hc
    exact z64
  | 65, hc =>
    cases (show SH[65]? = some (.inl (4, [.inl 66, .inr (2, 107), .inr (2, 108), .inr (2, 109), .inr (2, 110), .inr (2, 111), .inr (2, 112), .inr (2, 113)])) from rfl).symm.trans hc
    exact z65
  | 66, hc =>
    cases (show SH[66]? = some (.inr (.inl (2, 114, 30))) from rfl).symm.trans hc
    exact z66
  | 67, hc =>
    cases (show SH[67]? = some (.inl (4, [.inl 68, .inr (2, 144), .inr (2, 145), .inr (2, 146), .inr (2, 147), .inr (2, 148), .inr (2, 149), .inr (2, 150)])) from rfl).symm.trans hc
    exact z67
  | 68, hc =>
    cases (show SH[68]? = some (.inr (.inl (2, 151, 30))) from rfl).symm.trans hc
    exact z68
  | 69, hc =>
    cases (show SH[69]? = some (.inl (4, [.inl 70, .inr (2, 181), .inr (2, 182), .inr (2, 183), .inr (2, 184), .inr (2, 185), .inr (2, 186), .inr (2, 187)])) from rfl).symm.trans hc
    exact z69
  | 70, hc =>
    cases (show SH[70]? = some (.inr (.inl (2, 188, 30))) from rfl).symm.trans hc
    exact z70
  | 71, hc =>
    cases (show SH[71]? = some (.inl (4, [.inl 72, .inr (2, 218), .inr (2, 219), .inr (2, 220), .inr (2, 221), .inr (2, 222), .inr (2, 223), .inr (2, 224)])) from rfl).symm.trans hc
    exact z71
  | 72, hc =>
    cases (show SH[72]? = some (.inr (.inl (2, 225, 30))) from rfl).symm.trans hc
    exact z72
  | 73, hc =>
    cases (show SH[73]? = some (.inl (9, [.inl 74, .inl 75, .inl 76, .inr (23, 0), .inl 77, .inl 78, .inl 79, .inl 80, .inl 81, .inl 82, .inr (23, 1), .inr (23, 2), .inr (23, 3), .inr (23, 4), .inr (23, 5), .inr (23, 6), .inl 83, .inl 84, .inl 85])) from rfl).symm.trans hc
    exact z73
  | 74, hc =>
    cases (show SH[74]? = some (.inr (.inl (20, 0, 265))) from rfl).symm.trans hc
    exact z74
  | 75, hc =>
    cases (show SH[75]? = some (.inr (.inl (21, 0, 265))) from rfl).symm.trans hc
    exact z75
  | 76, hc =>
    cases (show SH[76]? = some (.inr (.inl (22, 0, 265))) from rfl).symm.trans hc
    exact z76
  | 77, hc =>
    cases (show SH[77]? = some (.inr (.inl (24, 0, 7))) from rfl).symm.trans hc
    exact z77
  | 78, hc =>
    cases (show SH[78]? = some (.inr (.inl (25, 0, 124))) from rfl).symm.trans hc
    exact z78
  | 79, hc =>
    cases (show SH[79]? = some (.inr (.inl (26, 0, 120))) from rfl).symm.trans hc
    exact z79
  | 80, hc =>
    cases (show SH[80]? = some (.inr (.inl (27, 0, 18))) from rfl).symm.trans hc
    exact z80
  | 81, hc =>
    cases (show SH[81]? = some (.inr (.inl (28, 0, 3))) from rfl).symm.trans hc
    exact z81
  | 82, hc =>
    cases (show SH[82]? = some (.inr (.inl (29, 0, 120))) from rfl).symm.trans hc
    exact z82
  | 83, hc =>
    cases (show SH[83]? = some (.inr (.inl (30, 0, 4))) from rfl).symm.trans hc
    exact z83
  | 84, hc =>
    cases (show SH[84]? = some (.inr (.inl (31, 0, 4))) from rfl).symm.trans hc
    exact z84
  | 85, hc =>
    cases (show SH[85]? = some (.inr (.inl (32, 0, 160))) from rfl).symm.trans hc
    exact z85
  | c + 86, hc => exact absurd (SH_lt hc) (by omega)
set_option maxRecDepth 100000 in
theorem adr0 : (wX8 cA x a ++ wX9 cA y a9).map Prod.fst = [x, a.1 0, a.2.1 0 0, a.1 1, a.2.1 1 0, a.1 2, a.2.1 2 0, a.1 3, a.2.1 3 0, a.1 4, a.1 5, (a.2.2 0).1 0, (a.2.2 0).2 0 0, (a.2.2 0).2 0 1, a.1 6, (a.2.1 4) 0, (a.2.1 4) 1, a.1 7, (a.2.1 5) 0, (a.2.1 5) 1, a.1 8, (a.2.1 6) 0, (a.2.1 6) 1, (a.2.1 6) 2, a.1 9, (a.2.2 1).1 0, (a.2.2 1).2 0 0, (a.2.2 1).1 1, (a.2.2 1).2 1 0, (a.2.2 1).1 2, (a.2.2 1).2 2 0, (a.2.2 1).1 3, (a.2.2 1).2 3 0, (a.2.2 1).1 4, (a.2.2 1).2 4 0, (a.2.2 1).1 5, (a.2.2 1).2 5 0, (a.2.2 1).1 6, (a.2.2 1).1 7, (a.2.2 1).1 8, a.1 10, (a.2.2 2).1 0, (a.2.2 2).2 0 0, (a.2.2 2).1 1, (a.2.2 2).2 1 0, (a.2.2 2).1 2, (a.2.2 2).2 2 0, (a.2.2 2).1 3, (a.2.2 2).2 3 0, (a.2.2 2).1 4, (a.2.2 2).2 4 0, (a.2.2 2).1 5, (a.2.2 2).2 5 0, (a.2.2 2).1 6, (a.2.2 2).1 7, (a.2.2 2).1 8, a.1 11, (a.2.2 3).1 0, (a.2.2 3).2 0 0, (a.2.2 3).1 1, (a.2.2 3).2 1 0, (a.2.2 3).1 2, (a.2.2 3).2 2 0, (a.2.2 3).1 3, (a.2.2 3).2 3 0, (a.2.2 3).1 4, (a.2.2 3).2 4 0, (a.2.2 3).1 5, (a.2.2 3).2 5 0, (a.2.2 3).1 6, (a.2.2 3).1 7, (a.2.2 3).1 8, a.1 12, y, a9 0, a9 1, a9 2, a9 3, a9 4, a9 5, a9 6, a9 7, a9 8, a9 9, a9 10, a9 11] := rfl
theorem perm_inj : ∀ i, i < 86 → ∀ j, j < 86 → permL.getD i 0 = permL.getD j 0 → i = j := by decide +kernel
theorem perm_lt : ∀ i, i < 86 → permL.getD i 0 < 86 := by decide +kernel
set_option maxRecDepth 100000 in
theorem adr_at (i : Nat) (hi : i < 86) : ((wX8 cA x a ++ wX9 cA y a9).map Prod.fst)[permL.getD i 0]? = some ((adL x a y a9).getD i 0) := by
  rw [adr0]
  match i, hi with
  | 0, _ => rfl
  | 1, _ => rfl
  | 2, _ => rfl
  | 3, _ => rfl
  | 4, _ => rfl
  | 5, _ => rfl
  | 6, _ => rfl
  | 7, _ => rfl
  | 8, _ => rfl
  | 9, _ => rfl
  | 10, _ => rfl
  | 11, _ => rfl
  | 12, _ => rfl
  | 13, _ => rfl
  | 14, _ => rfl
  | 15, _ => rfl
  | 16, _ => rfl
  | 17, _ => rfl
  | 18, _ => rfl
  | 19, _ => rfl
  | 20, _ => rfl
  | 21, _ => rfl
  | 22, _ => rfl
  | 23, _ => rfl
  | 24, _ => rfl
  | 25, _ => rfl
  | 26, _ => rfl
  | 27, _ => rfl
  | 28, _ => rfl
  | 29, _ => rfl
  | 30, _ => rfl
  | 31, _ => rfl
  | 32, _ => rfl
  | 33, _ => rfl
  | 34, _ => rfl
  | 35, _ => rfl
  | 36, _ => rfl
  | 37, _ => rfl
  | 38, _ => rfl
  | 39, _ => rfl
  | 40, _ => rfl
  | 41, _ => rfl
  | 42, _ => rfl
  | 43, _ => rfl
  | 44, _ => rfl
  | 45, _ => rfl
  | 46, _ => rfl
  | 47, _ => rfl
  | 48, _ => rfl
  | 49, _ => rfl
  | 50, _ => rfl
  | 51, _ => rfl
  | 52, _ => rfl
  | 53, _ => rfl
  | 54, _ => rfl
  | 55, _ => rfl
  | 56, _ => rfl
  | 57, _ => rfl
  | 58, _ => rfl
  | 59, _ => rfl
  | 60, _ => rfl
  | 61, _ => rfl
  | 62, _ => rfl
  | 63, _ => rfl
  | 64, _ => rfl
  | 65, _ => rfl
  | 66, _ => rfl
  | 67, _ => rfl
  | 68, _ => rfl
  | 69, _ => rfl
  | 70, _ => rfl
  | 71, _ => rfl
  | 72, _ => rfl
  | 73, _ => rfl
  | 74, _ => rfl
  | 75, _ => rfl
  | 76, _ => rfl
  | 77, _ => rfl
  | 78, _ => rfl
  | 79, _ => rfl
  | 80, _ => rfl
  | 81, _ => rfl
  | 82, _ => rfl
  | 83, _ => rfl
  | 84, _ => rfl
  | 85, _ => rfl
  | i + 86, h => omega
theorem cell_at (i : Nat) (hi : i < 86) : ∃ e, (wX8 cA x a ++ wX9 cA y a9)[permL.getD i 0]? = some ((geo0 D cA ad x a y a9).2.1 i, e) := by
  have h := adr_at (cA := cA) (x := x) (a := a) (y := y) (a9 := a9) i hi
  rw [List.getElem?_map] at h
  have e : (geo0 D cA ad x a y a9).2.1 i = (adL x a y a9).getD i 0 := if_pos hi
  rw [e]
  cases hw : (wX8 cA x a ++ wX9 cA y a9)[permL.getD i 0]? with
  | none => rw [hw] at h; cases h
  | some q =>
    rw [hw] at h
    have : q.1 = (adL x a y a9).getD i 0 := Option.some.inj h
    exact ⟨q.2, by rw [← this]⟩
theorem inj0 {A : Nat → Prop} (hD : va_D A (wX8 cA x a ++ wX9 cA y a9)) : ∀ i j, i < 86 → j < 86 → (geo0 D cA ad x a y a9).2.1 i = (geo0 D cA ad x a y a9).2.1 j → i = j := fun i j hi hj e => by
  obtain ⟨e1, h1⟩ := cell_at (D := D) (cA := cA) (ad := ad) (x := x) (a := a) (y := y) (a9 := a9) i hi
  obtain ⟨e2, h2⟩ := cell_at (D := D) (cA := cA) (ad := ad) (x := x) (a := a) (y := y) (a9 := a9) j hj
  exact perm_inj i hi j hj (hD.1 _ _ _ _ h1 h2 e)
theorem new0 {A : Nat → Prop} (hD : va_D A (wX8 cA x a ++ wX9 cA y a9)) : ∀ i, i < 86 → A ((geo0 D cA ad x a y a9).2.1 i) := fun i hi => by
  obtain ⟨e1, h1⟩ := cell_at (D := D) (cA := cA) (ad := ad) (x := x) (a := a) (y := y) (a9 := a9) i hi
  exact hD.2 _ _ h1
end PN2
