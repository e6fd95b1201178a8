/-! ===== printed by law.py: the law's cases ===== -/
set_option maxRecDepth 20000 in
theorem lc_34 {X : x_Ext} {c : Nat} {i : Int32} {sh : List (Nat ⊕ (Nat × Nat))} {gi : Nat → Nat → Int32} {gl : Nat → Nat → Int64} {gr : Nat → Nat → Value} {P : Option Value → x_G → Prop} (hL : X.1 ≤ 3072) (h0 : 0 ≤ i.toInt) (h1 : i.toInt + 6 ≤ (X.1 : Int)) (hW : t_LE c sh gi gl gr) (kk : ∀ sh2 gi2 gl2 gr2, t_LE (c + 1) sh2 gi2 gl2 gr2 → x_Ev X 1000 n_L_law 1621 [(3, .int i), (2, .ref 69), (1, .ref 0), (0, .retAddr 30)] [] (sh2, gi2, gl2, gr2) P) : x_Ev X 1000 n_L_law 1306 [(3, .int i), (2, .ref 69), (1, .ref 0), (0, .retAddr 30)] [] (sh, gi, gl, gr) P := by
  obtain ⟨⟨⟨⟨⟨hI, hH, hJ, hz1, hz2⟩, hR, h7⟩, hT⟩, hD⟩, hN⟩ := hW
  have hk1 : (i + 1).toInt = i.toInt + 1 := t_ik rfl h0 (by omega) (by decide)
  obtain ⟨A1, hA1⟩ : ∃ v, X.2 (i + 1).toNatClampNeg = v := ⟨_, rfl⟩
  have hi6 : i.toInt ≤ 3066 := by omega
  have hm12 := hI.b (hI.wf.s (k := 0) rfl) (t_bdK rfl : t_bd 10 12 = some (0, 3))
  refine ev_loc f_L_law (nx := 1307) rfl rfl rfl rfl ?_
  refine ev_loc f_L_law (nx := 1308) rfl rfl rfl rfl ?_
  refine ev_loc f_L_law (nx := 1309) rfl rfl rfl rfl ?_
  refine ev_ic f_L_law (nx := 1310) (v := 1) rfl (by decide) rfl ?_
  refine ev_alu f_L_law (nx := 1311) rfl rfl rfl rfl ?_
  refine ev_scx f_L_law (nx := 1312) (w := A1) rfl (by rw [hk1]; omega) (by rw [hk1]; omega) hA1 rfl ?_
  refine ev_lwc f_L_law (nx := 1315) rfl rfl rfl rfl rfl rfl rfl (x_Me.up (c_h_worth (d := 0) hI (A1)) (by omega)) rfl ?_
  rintro _ _ ⟨g1, l1, r1, rfl, hI1, hX1, x1, rfl, -, -⟩
  have hJ1 := t_J_ext hJ (hX1.1 69 75 rfl).1 (fun j => (hX1.1 70 j rfl).1)
  have f1 := t_F_X hX1
  refine ev_alu f_L_law (nx := 1316) rfl rfl rfl rfl ?_
  refine ev_loc f_L_law (nx := 1317) rfl rfl rfl rfl ?_
  refine ev_loc f_L_law (nx := 1318) rfl rfl rfl rfl ?_
  refine ev_loc f_L_law (nx := 1319) rfl rfl rfl rfl ?_
  refine ev_ic f_L_law (nx := 1320) (v := 1) rfl (by decide) rfl ?_
  refine ev_alu f_L_law (nx := 1321) rfl rfl rfl rfl ?_
  refine ev_scx f_L_law (nx := 1322) (w := A1) rfl (by rw [hk1]; omega) (by rw [hk1]; omega) hA1 rfl ?_
  have hm0 : ((0 : Nat) : Int) ≤ (g1 69 75).toInt := (hI1.b (hI1.wf.s (k := 69) rfl) (t_bdK rfl : t_bd 11 75 = some (0, 3))).1
  have hm3 := (hI1.b (hI1.wf.s (k := 69) rfl) (t_bdK rfl : t_bd 11 75 = some (0, 3))).2
  refine ev_lwc f_L_law (nx := 1325) rfl rfl rfl rfl rfl rfl rfl (x_Me.up (c_m_worth (d := 0) hI1 (A1) (hJ1 0 hm0).2) (by omega)) rfl ?_
  rintro _ _ ⟨g2, l2, r2, rfl, hI2, hX2, x2, rfl, -, -⟩
  have hJ2 := t_J_ext hJ1 (hX2.1 69 75 rfl).1 (fun j => (hX2.1 70 j rfl).1)
  have f2 := t_F_X hX2
  have hR2 : t_R g2 r2 := t_L_gen hR f1 f2 (by decide +kernel) (by decide +kernel)
  have h72 := t_L_g7 h7 f1 f2 (by decide +kernel)
  have hT2 : t_TP g2 := t_TP_same hT f1 f2 (by decide +kernel) rfl rfl
  have hD2 := t_DR_same hD hX1 hX2 (by decide +kernel) (fun j hj => (hX2.1 70 j (t_nG (lo := 0) (hi := 1400) rfl (Nat.zero_le _) hj)).1) hm12.2
  have hN1 : (g1 69 46).toInt = -1 := t_N46a hN f1 (by decide +kernel)
  have hN2 : (g2 69 46).toInt = -1 := t_N46 hN f1 f2 (by decide +kernel)
  refine ev_alu f_L_law (nx := 1326) rfl rfl rfl rfl ?_
  refine ev_jmp f_L_law (nx := 1621) rfl rfl rfl ?_
  exact kk _ _ _ _ ⟨⟨⟨⟨⟨hI2, hH, hJ2, by omega, by omega⟩, hR2, h72⟩, hT2⟩, hD2⟩, hN2⟩
set_option maxRecDepth 20000 in
theorem lc_35 {X : x_Ext} {c : Nat} {i : Int32} {sh : List (Nat ⊕ (Nat × Nat))} {gi : Nat → Nat → Int32} {gl : Nat → Nat → Int64} {gr : Nat → Nat → Value} {P : Option Value → x_G → Prop} (hL : X.1 ≤ 3072) (h0 : 0 ≤ i.toInt) (h1 : i.toInt + 6 ≤ (X.1 : Int)) (hW : t_LE c sh gi gl gr) (kk : ∀ sh2 gi2 gl2 gr2, t_LE (c + 1) sh2 gi2 gl2 gr2 → x_Ev X 1000 n_L_law 1621 [(3, .int i), (2, .ref 69), (1, .ref 0), (0, .retAddr 30)] [] (sh2, gi2, gl2, gr2) P) : x_Ev X 1000 n_L_law 1329 [(3, .int i), (2, .ref 69), (1, .ref 0), (0, .retAddr 30)] [] (sh, gi, gl, gr) P := by
  obtain ⟨⟨⟨⟨⟨hI, hH, hJ, hz1, hz2⟩, hR, h7⟩, hT⟩, hD⟩, hN⟩ := hW
  have hk1 : (i + 1).toInt = i.toInt + 1 := t_ik rfl h0 (by omega) (by decide)
  obtain ⟨A1, hA1⟩ : ∃ v, X.2 (i + 1).toNatClampNeg = v := ⟨_, rfl⟩
  have hi6 : i.toInt ≤ 3066 := by omega
  have hm12 := hI.b (hI.wf.s (k := 0) rfl) (t_bdK rfl : t_bd 10 12 = some (0, 3))
  refine ev_loc f_L_law (nx := 1330) rfl rfl rfl rfl ?_
  refine ev_loc f_L_law (nx := 1331) rfl rfl rfl rfl ?_
  refine ev_loc f_L_law (nx := 1332) rfl rfl rfl rfl ?_
  refine ev_ic f_L_law (nx := 1333) (v := 1) rfl (by decide) rfl ?_
  refine ev_alu f_L_law (nx := 1334) rfl rfl rfl rfl ?_
  refine ev_scx f_L_law (nx := 1335) (w := A1) rfl (by rw [hk1]; omega) (by rw [hk1]; omega) hA1 rfl ?_
  refine ev_lwc f_L_law (nx := 1338) rfl rfl rfl rfl rfl rfl rfl (x_Me.up (c_h_quicker (d := 0) hI (A1)) (by omega)) rfl ?_
  rintro _ _ ⟨g1, l1, r1, rfl, hI1, hX1, x1, rfl, -, -⟩
  have hJ1 := t_J_ext hJ (hX1.1 69 75 rfl).1 (fun j => (hX1.1 70 j rfl).1)
  have f1 := t_F_X hX1
  refine ev_alu f_L_law (nx := 1339) rfl rfl rfl rfl ?_
  refine ev_loc f_L_law (nx := 1340) rfl rfl rfl rfl ?_
  refine ev_loc f_L_law (nx := 1341) rfl rfl rfl rfl ?_
  refine ev_loc f_L_law (nx := 1342) rfl rfl rfl rfl ?_
  refine ev_ic f_L_law (nx := 1343) (v := 1) rfl (by decide) rfl ?_
  refine ev_alu f_L_law (nx := 1344) rfl rfl rfl rfl ?_
  refine ev_scx f_L_law (nx := 1345) (w := A1) rfl (by rw [hk1]; omega) (by rw [hk1]; omega) hA1 rfl ?_
  have hm0 : ((0 : Nat) : Int) ≤ (g1 69 75).toInt := (hI1.b (hI1.wf.s (k := 69) rfl) (t_bdK rfl : t_bd 11 75 = some (0, 3))).1
  have hm3 := (hI1.b (hI1.wf.s (k := 69) rfl) (t_bdK rfl : t_bd 11 75 = some (0, 3))).2
  refine ev_lwc f_L_law (nx := 1348) rfl rfl rfl rfl rfl rfl rfl (x_Me.up (c_m_quicker (d := 0) hI1 (A1)) (by omega)) rfl ?_
  rintro _ _ ⟨g2, l2, r2, rfl, hI2, hX2, x2, rfl, -, -⟩
  have hJ2 := t_J_ext hJ1 (hX2.1 69 75 rfl).1 (fun j => (hX2.1 70 j rfl).1)
  have f2 := t_F_X hX2
  have hR2 : t_R g2 r2 := t_L_gen hR f1 f2 (by decide +kernel) (by decide +kernel)
  have h72 := t_L_g7 h7 f1 f2 (by decide +kernel)
  have hT2 : t_TP g2 := t_TP_same hT f1 f2 (by decide +kernel) rfl rfl
  have hD2 := t_DR_same hD hX1 hX2 (by decide +kernel) (fun j hj => (hX2.1 70 j (t_nG (lo := 0) (hi := 1400) rfl (Nat.zero_le _) hj)).1) hm12.2
  have hN1 : (g1 69 46).toInt = -1 := t_N46a hN f1 (by decide +kernel)
  have hN2 : (g2 69 46).toInt = -1 := t_N46 hN f1 f2 (by decide +kernel)
  refine ev_alu f_L_law (nx := 1349) rfl rfl rfl rfl ?_
  refine ev_jmp f_L_law (nx := 1621) rfl rfl rfl ?_
  exact kk _ _ _ _ ⟨⟨⟨⟨⟨hI2, hH, hJ2, by omega, by omega⟩, hR2, h72⟩, hT2⟩, hD2⟩, hN2⟩
set_option maxRecDepth 20000 in
theorem lc_36 {X : x_Ext} {c : Nat} {i : Int32} {sh : List (Nat ⊕ (Nat × Nat))} {gi : Nat → Nat → Int32} {gl : Nat → Nat → Int64} {gr : Nat → Nat → Value} {P : Option Value → x_G → Prop} (hL : X.1 ≤ 3072) (h0 : 0 ≤ i.toInt) (h1 : i.toInt + 6 ≤ (X.1 : Int)) (hW : t_LE c sh gi gl gr) (kk : ∀ sh2 gi2 gl2 gr2, t_LE (c + 1) sh2 gi2 gl2 gr2 → x_Ev X 1000 n_L_law 1621 [(3, .int i), (2, .ref 69), (1, .ref 0), (0, .retAddr 30)] [] (sh2, gi2, gl2, gr2) P) : x_Ev X 1000 n_L_law 1352 [(3, .int i), (2, .ref 69), (1, .ref 0), (0, .retAddr 30)] [] (sh, gi, gl, gr) P := by
  obtain ⟨⟨⟨⟨⟨hI, hH, hJ, hz1, hz2⟩, hR, h7⟩, hT⟩, hD⟩, hN⟩ := hW
  have hi6 : i.toInt ≤ 3066 := by omega
  have hm12 := hI.b (hI.wf.s (k := 0) rfl) (t_bdK rfl : t_bd 10 12 = some (0, 3))
  refine ev_loc f_L_law (nx := 1353) rfl rfl rfl rfl ?_
  refine ev_lwc f_L_law (nx := 1356) rfl rfl rfl rfl rfl rfl rfl (x_Me.up (c_h_away (d := 0) hI) (by omega)) rfl ?_
  rintro _ _ ⟨g1, l1, r1, rfl, hI1, hX1, x1, rfl, -, -⟩
  have hJ1 := t_J_ext hJ (hX1.1 69 75 rfl).1 (fun j => (hX1.1 70 j rfl).1)
  have f1 := t_F_X hX1
  refine ev_alu f_L_law (nx := 1357) rfl rfl rfl rfl ?_
  refine ev_loc f_L_law (nx := 1358) rfl rfl rfl rfl ?_
  have hm0 : ((0 : Nat) : Int) ≤ (g1 69 75).toInt := (hI1.b (hI1.wf.s (k := 69) rfl) (t_bdK rfl : t_bd 11 75 = some (0, 3))).1
  have hm3 := (hI1.b (hI1.wf.s (k := 69) rfl) (t_bdK rfl : t_bd 11 75 = some (0, 3))).2
  refine ev_lwc f_L_law (nx := 1361) rfl rfl rfl rfl rfl rfl rfl (x_Me.up (c_m_away (d := 0) hI1 (hJ1 0 hm0).2) (by omega)) rfl ?_
  rintro _ _ ⟨g2, l2, r2, rfl, hI2, hX2, x2, rfl, -, -⟩
  have hJ2 := t_J_ext hJ1 (hX2.1 69 75 rfl).1 (fun j => (hX2.1 70 j rfl).1)
  have f2 := t_F_X hX2
  have hR2 : t_R g2 r2 := t_L_gen hR f1 f2 (by decide +kernel) (by decide +kernel)
  have h72 := t_L_g7 h7 f1 f2 (by decide +kernel)
  have hT2 : t_TP g2 := t_TP_same hT f1 f2 (by decide +kernel) rfl rfl
  have hD2 := t_DR_same hD hX1 hX2 (by decide +kernel) (fun j hj => (hX2.1 70 j (t_nG (lo := 0) (hi := 1400) rfl (Nat.zero_le _) hj)).1) hm12.2
  have hN1 : (g1 69 46).toInt = -1 := t_N46a hN f1 (by decide +kernel)
  have hN2 : (g2 69 46).toInt = -1 := t_N46 hN f1 f2 (by decide +kernel)
  refine ev_alu f_L_law (nx := 1362) rfl rfl rfl rfl ?_
  refine ev_jmp f_L_law (nx := 1621) rfl rfl rfl ?_
  exact kk _ _ _ _ ⟨⟨⟨⟨⟨hI2, hH, hJ2, by omega, by omega⟩, hR2, h72⟩, hT2⟩, hD2⟩, hN2⟩
set_option maxRecDepth 20000 in
theorem lc_37 {X : x_Ext} {c : Nat} {i : Int32} {sh : List (Nat ⊕ (Nat × Nat))} {gi : Nat → Nat → Int32} {gl : Nat → Nat → Int64} {gr : Nat → Nat → Value} {P : Option Value → x_G → Prop} (hL : X.1 ≤ 3072) (h0 : 0 ≤ i.toInt) (h1 : i.toInt + 6 ≤ (X.1 : Int)) (hW : t_LE c sh gi gl gr) (kk : ∀ sh2 gi2 gl2 gr2, t_LE (c + 1) sh2 gi2 gl2 gr2 → x_Ev X 1000 n_L_law 1621 [(3, .int i), (2, .ref 69), (1, .ref 0), (0, .retAddr 30)] [] (sh2, gi2, gl2, gr2) P) : x_Ev X 1000 n_L_law 1365 [(3, .int i), (2, .ref 69), (1, .ref 0), (0, .retAddr 30)] [] (sh, gi, gl, gr) P := by
  obtain ⟨⟨⟨⟨⟨hI, hH, hJ, hz1, hz2⟩, hR, h7⟩, hT⟩, hD⟩, hN⟩ := hW
  have hk1 : (i + 1).toInt = i.toInt + 1 := t_ik rfl h0 (by omega) (by decide)
  obtain ⟨A1, hA1⟩ : ∃ v, X.2 (i + 1).toNatClampNeg = v := ⟨_, rfl⟩
  have hk2 : (i + 2).toInt = i.toInt + 2 := t_ik rfl h0 (by omega) (by decide)
  obtain ⟨A2, hA2⟩ : ∃ v, X.2 (i + 2).toNatClampNeg = v := ⟨_, rfl⟩
  have hi6 : i.toInt ≤ 3066 := by omega
  have hm12 := hI.b (hI.wf.s (k := 0) rfl) (t_bdK rfl : t_bd 10 12 = some (0, 3))
  refine ev_loc f_L_law (nx := 1366) rfl rfl rfl rfl ?_
  refine ev_loc f_L_law (nx := 1367) rfl rfl rfl rfl ?_
  refine ev_loc f_L_law (nx := 1368) rfl rfl rfl rfl ?_
  refine ev_ic f_L_law (nx := 1369) (v := 1) rfl (by decide) rfl ?_
  refine ev_alu f_L_law (nx := 1370) rfl rfl rfl rfl ?_
  refine ev_scx f_L_law (nx := 1371) (w := A1) rfl (by rw [hk1]; omega) (by rw [hk1]; omega) hA1 rfl ?_
  refine ev_loc f_L_law (nx := 1372) rfl rfl rfl rfl ?_
  refine ev_loc f_L_law (nx := 1373) rfl rfl rfl rfl ?_
  refine ev_ic f_L_law (nx := 1374) (v := 2) rfl (by decide) rfl ?_
  refine ev_alu f_L_law (nx := 1375) rfl rfl rfl rfl ?_
  refine ev_scx f_L_law (nx := 1376) (w := A2) rfl (by rw [hk2]; omega) (by rw [hk2]; omega) hA2 rfl ?_
  refine ev_lwc f_L_law (nx := 1379) rfl rfl rfl rfl rfl rfl rfl (x_Me.up (((x_Me.up (d' := 900) (c_h_later (d := 0) hI (A1) (A2)) (by omega)).and (x_Me.up (d' := 900) (c_d_later (d := 0) hI (A1) (A2)) (by omega)))) (by omega)) rfl ?_
  rintro _ _ ⟨⟨g1, l1, r1, rfl, hI1, hX1, x1, rfl, -, -⟩, hq1⟩
  obtain ⟨g9, l9, r9, e9, -, -, x9, e8, -, -, qs1⟩ := hq1
  cases e9; cases e8
  have hJ1 := t_J_ext hJ (hX1.1 69 75 rfl).1 (fun j => (hX1.1 70 j rfl).1)
  have f1 := t_F_X hX1
  refine ev_loc f_L_law (nx := 1380) rfl rfl rfl rfl ?_
  refine ev_loc f_L_law (nx := 1381) rfl rfl rfl rfl ?_
  refine ev_loc f_L_law (nx := 1382) rfl rfl rfl rfl ?_
  refine ev_ic f_L_law (nx := 1383) (v := 1) rfl (by decide) rfl ?_
  refine ev_alu f_L_law (nx := 1384) rfl rfl rfl rfl ?_
  refine ev_scx f_L_law (nx := 1385) (w := A1) rfl (by rw [hk1]; omega) (by rw [hk1]; omega) hA1 rfl ?_
  refine ev_loc f_L_law (nx := 1386) rfl rfl rfl rfl ?_
  refine ev_loc f_L_law (nx := 1387) rfl rfl rfl rfl ?_
  refine ev_ic f_L_law (nx := 1388) (v := 2) rfl (by decide) rfl ?_
  refine ev_alu f_L_law (nx := 1389) rfl rfl rfl rfl ?_
  refine ev_scx f_L_law (nx := 1390) (w := A2) rfl (by rw [hk2]; omega) (by rw [hk2]; omega) hA2 rfl ?_
  have hm0 : ((0 : Nat) : Int) ≤ (g1 69 75).toInt := (hI1.b (hI1.wf.s (k := 69) rfl) (t_bdK rfl : t_bd 11 75 = some (0, 3))).1
  have hm3 := (hI1.b (hI1.wf.s (k := 69) rfl) (t_bdK rfl : t_bd 11 75 = some (0, 3))).2
  refine ev_lwc f_L_law (nx := 1393) rfl rfl rfl rfl rfl rfl rfl (x_Me.up (((x_Me.up (d' := 900) (c_m_later (d := 0) hI1 (A1) (A2) (hJ1 0 hm0).2) (by omega)).and (x_Me.up (d' := 900) (c_e_later (d := 0) hI1 (A1) (A2) (hJ1 0 hm0).2) (by omega)))) (by omega)) rfl ?_
  rintro _ _ ⟨⟨g2, l2, r2, rfl, hI2, hX2, x2, rfl, -, -⟩, hq2⟩
  obtain ⟨g9, l9, r9, e9, -, -, x9, e8, -, -, qs2⟩ := hq2
  cases e9; cases e8
  have hJ2 := t_J_ext hJ1 (hX2.1 69 75 rfl).1 (fun j => (hX2.1 70 j rfl).1)
  have f2 := t_F_X hX2
  have hR2 : t_R g2 r2 := t_L_gen hR f1 f2 (by decide +kernel) (by decide +kernel)
  have h72 := t_L_g7 h7 f1 f2 (by decide +kernel)
  have hT2 : t_TP g2 := t_TP_same hT f1 f2 (by decide +kernel) rfl rfl
  have hD2 := t_DR_same hD hX1 hX2 (by decide +kernel) (fun j hj => (hX2.1 70 j (t_nG (lo := 0) (hi := 1400) rfl (Nat.zero_le _) hj)).1) hm12.2
  have hN1 : (g1 69 46).toInt = -1 := t_N46a hN f1 (by decide +kernel)
  have hN2 : (g2 69 46).toInt = -1 := t_N46 hN f1 f2 (by decide +kernel)
  have hA : x1 = x2 := t_L_later hI hD f1 rfl hN1 (hJ1 0 hm0).2 qs1 qs2
  refine ev_t f_L_law (t1 := 1621) (t2 := 1396) rfl rfl rfl hA ?_
  exact kk _ _ _ _ ⟨⟨⟨⟨⟨hI2, hH, hJ2, by omega, by omega⟩, hR2, h72⟩, hT2⟩, hD2⟩, hN2⟩
set_option maxRecDepth 20000 in
theorem lc_38 {X : x_Ext} {c : Nat} {i : Int32} {sh : List (Nat ⊕ (Nat × Nat))} {gi : Nat → Nat → Int32} {gl : Nat → Nat → Int64} {gr : Nat → Nat → Value} {P : Option Value → x_G → Prop} (hL : X.1 ≤ 3072) (h0 : 0 ≤ i.toInt) (h1 : i.toInt + 6 ≤ (X.1 : Int)) (hW : t_LE c sh gi gl gr) (kk : ∀ sh2 gi2 gl2 gr2, t_LE (c + 1) sh2 gi2 gl2 gr2 → x_Ev X 1000 n_L_law 1621 [(3, .int i), (2, .ref 69), (1, .ref 0), (0, .retAddr 30)] [] (sh2, gi2, gl2, gr2) P) : x_Ev X 1000 n_L_law 1398 [(3, .int i), (2, .ref 69), (1, .ref 0), (0, .retAddr 30)] [] (sh, gi, gl, gr) P := by
  obtain ⟨⟨⟨⟨⟨hI, hH, hJ, hz1, hz2⟩, hR, h7⟩, hT⟩, hD⟩, hN⟩ := hW
  have hk1 : (i + 1).toInt = i.toInt + 1 := t_ik rfl h0 (by omega) (by decide)
  obtain ⟨A1, hA1⟩ : ∃ v, X.2 (i + 1).toNatClampNeg = v := ⟨_, rfl⟩
  have hi6 : i.toInt ≤ 3066 := by omega
  have hm12 := hI.b (hI.wf.s (k := 0) rfl) (t_bdK rfl : t_bd 10 12 = some (0, 3))
  refine ev_loc f_L_law (nx := 1399) rfl rfl rfl rfl ?_
  refine ev_loc f_L_law (nx := 1400) rfl rfl rfl rfl ?_
  refine ev_loc f_L_law (nx := 1401) rfl rfl rfl rfl ?_
  refine ev_ic f_L_law (nx := 1402) (v := 1) rfl (by decide) rfl ?_
  refine ev_alu f_L_law (nx := 1403) rfl rfl rfl rfl ?_
  refine ev_scx f_L_law (nx := 1404) (w := A1) rfl (by rw [hk1]; omega) (by rw [hk1]; omega) hA1 rfl ?_
  refine ev_lwc f_L_law (nx := 1407) rfl rfl rfl rfl rfl rfl rfl (x_Me.up (c_h_slack (d := 0) hI (A1)) (by omega)) rfl ?_
  rintro _ _ ⟨g1, l1, r1, rfl, hI1, hX1, x1, rfl, -, -⟩
  have hJ1 := t_J_ext hJ (hX1.1 69 75 rfl).1 (fun j => (hX1.1 70 j rfl).1)
  have f1 := t_F_X hX1
  refine ev_alu f_L_law (nx := 1408) rfl rfl rfl rfl ?_
  refine ev_loc f_L_law (nx := 1409) rfl rfl rfl rfl ?_
  refine ev_loc f_L_law (nx := 1410) rfl rfl rfl rfl ?_
  refine ev_loc f_L_law (nx := 1411) rfl rfl rfl rfl ?_
  refine ev_ic f_L_law (nx := 1412) (v := 1) rfl (by decide) rfl ?_
  refine ev_alu f_L_law (nx := 1413) rfl rfl rfl rfl ?_
  refine ev_scx f_L_law (nx := 1414) (w := A1) rfl (by rw [hk1]; omega) (by rw [hk1]; omega) hA1 rfl ?_
  have hm0 : ((0 : Nat) : Int) ≤ (g1 69 75).toInt := (hI1.b (hI1.wf.s (k := 69) rfl) (t_bdK rfl : t_bd 11 75 = some (0, 3))).1
  have hm3 := (hI1.b (hI1.wf.s (k := 69) rfl) (t_bdK rfl : t_bd 11 75 = some (0, 3))).2
  refine ev_lwc f_L_law (nx := 1417) rfl rfl rfl rfl rfl rfl rfl (x_Me.up (c_m_slack (d := 0) hI1 (A1) (hJ1 0 hm0).2) (by omega)) rfl ?_
  rintro _ _ ⟨g2, l2, r2, rfl, hI2, hX2, x2, rfl, -, -⟩
  have hJ2 := t_J_ext hJ1 (hX2.1 69 75 rfl).1 (fun j => (hX2.1 70 j rfl).1)
  have f2 := t_F_X hX2
  have hR2 : t_R g2 r2 := t_L_gen hR f1 f2 (by decide +kernel) (by decide +kernel)
  have h72 := t_L_g7 h7 f1 f2 (by decide +kernel)
  have hT2 : t_TP g2 := t_TP_same hT f1 f2 (by decide +kernel) rfl rfl
  have hD2 := t_DR_same hD hX1 hX2 (by decide +kernel) (fun j hj => (hX2.1 70 j (t_nG (lo := 0) (hi := 1400) rfl (Nat.zero_le _) hj)).1) hm12.2
  have hN1 : (g1 69 46).toInt = -1 := t_N46a hN f1 (by decide +kernel)
  have hN2 : (g2 69 46).toInt = -1 := t_N46 hN f1 f2 (by decide +kernel)
  refine ev_alu f_L_law (nx := 1418) rfl rfl rfl rfl ?_
  refine ev_jmp f_L_law (nx := 1621) rfl rfl rfl ?_
  exact kk _ _ _ _ ⟨⟨⟨⟨⟨hI2, hH, hJ2, by omega, by omega⟩, hR2, h72⟩, hT2⟩, hD2⟩, hN2⟩
set_option maxRecDepth 20000 in
theorem lc_39 {X : x_Ext} {c : Nat} {i : Int32} {sh : List (Nat ⊕ (Nat × Nat))} {gi : Nat → Nat → Int32} {gl : Nat → Nat → Int64} {gr : Nat → Nat → Value} {P : Option Value → x_G → Prop} (hL : X.1 ≤ 3072) (h0 : 0 ≤ i.toInt) (h1 : i.toInt + 6 ≤ (X.1 : Int)) (hW : t_LE c sh gi gl gr) (kk : ∀ sh2 gi2 gl2 gr2, t_LE (c + 1) sh2 gi2 gl2 gr2 → x_Ev X 1000 n_L_law 1621 [(3, .int i), (2, .ref 69), (1, .ref 0), (0, .retAddr 30)] [] (sh2, gi2, gl2, gr2) P) : x_Ev X 1000 n_L_law 1421 [(3, .int i), (2, .ref 69), (1, .ref 0), (0, .retAddr 30)] [] (sh, gi, gl, gr) P := by
  obtain ⟨⟨⟨⟨⟨hI, hH, hJ, hz1, hz2⟩, hR, h7⟩, hT⟩, hD⟩, hN⟩ := hW
  have hk1 : (i + 1).toInt = i.toInt + 1 := t_ik rfl h0 (by omega) (by decide)
  obtain ⟨A1, hA1⟩ : ∃ v, X.2 (i + 1).toNatClampNeg = v := ⟨_, rfl⟩
  have hi6 : i.toInt ≤ 3066 := by omega
  have hm12 := hI.b (hI.wf.s (k := 0) rfl) (t_bdK rfl : t_bd 10 12 = some (0, 3))
  refine ev_loc f_L_law (nx := 1422) rfl rfl rfl rfl ?_
  refine ev_loc f_L_law (nx := 1423) rfl rfl rfl rfl ?_
  refine ev_loc f_L_law (nx := 1424) rfl rfl rfl rfl ?_
  refine ev_ic f_L_law (nx := 1425) (v := 1) rfl (by decide) rfl ?_
  refine ev_alu f_L_law (nx := 1426) rfl rfl rfl rfl ?_
  refine ev_scx f_L_law (nx := 1427) (w := A1) rfl (by rw [hk1]; omega) (by rw [hk1]; omega) hA1 rfl ?_
  refine ev_lwc f_L_law (nx := 1430) rfl rfl rfl rfl rfl rfl rfl (x_Me.up (c_h_without (d := 0) hI (A1)) (by omega)) rfl ?_
  rintro _ _ ⟨g1, l1, r1, rfl, hI1, hX1, x1, rfl, -, -⟩
  have hJ1 := t_J_ext hJ (hX1.1 69 75 rfl).1 (fun j => (hX1.1 70 j rfl).1)
  have f1 := t_F_X hX1
  refine ev_alu f_L_law (nx := 1431) rfl rfl rfl rfl ?_
  refine ev_loc f_L_law (nx := 1432) rfl rfl rfl rfl ?_
  refine ev_loc f_L_law (nx := 1433) rfl rfl rfl rfl ?_
  refine ev_loc f_L_law (nx := 1434) rfl rfl rfl rfl ?_
  refine ev_ic f_L_law (nx := 1435) (v := 1) rfl (by decide) rfl ?_
  refine ev_alu f_L_law (nx := 1436) rfl rfl rfl rfl ?_
  refine ev_scx f_L_law (nx := 1437) (w := A1) rfl (by rw [hk1]; omega) (by rw [hk1]; omega) hA1 rfl ?_
  have hm0 : ((0 : Nat) : Int) ≤ (g1 69 75).toInt := (hI1.b (hI1.wf.s (k := 69) rfl) (t_bdK rfl : t_bd 11 75 = some (0, 3))).1
  have hm3 := (hI1.b (hI1.wf.s (k := 69) rfl) (t_bdK rfl : t_bd 11 75 = some (0, 3))).2
  refine ev_lwc f_L_law (nx := 1440) rfl rfl rfl rfl rfl rfl rfl (x_Me.up (((x_Me.up (d' := 900) (c_m_without (d := 0) hI1 (A1) (hJ1 0 hm0).2) (by omega)).and (x_Me.up (d' := 900) (c_n_without (d := 0) hI1 (A1) (hJ1 0 hm0).2) (by omega)))) (by omega)) rfl ?_
  rintro _ _ ⟨⟨g2, l2, r2, rfl, hI2, hX2, x2, rfl, -, -⟩, hq2⟩
  obtain ⟨g9, l9, r9, e9, -, -, x9, e8, -, -, qs2⟩ := hq2
  cases e9; cases e8
  have hJ2 := t_J_ext hJ1 (hX2.1 69 75 rfl).1 (fun j => (hX2.1 70 j rfl).1)
  have f2 := t_F_X hX2
  have hR2 : t_R g2 r2 := t_L_gen hR f1 f2 (by decide +kernel) (by decide +kernel)
  have h72 := t_L_g7 h7 f1 f2 (by decide +kernel)
  have hT2 : t_TP g2 := t_TP_same hT f1 f2 (by decide +kernel) rfl rfl
  have hD2 := t_DR_same hD hX1 hX2 (by decide +kernel) (fun j hj => (hX2.1 70 j (t_nG (lo := 0) (hi := 1400) rfl (Nat.zero_le _) hj)).1) hm12.2
  have hN1 : (g1 69 46).toInt = -1 := t_N46a hN f1 (by decide +kernel)
  have hN2 : (g2 69 46).toInt = -1 := qs2 hN1
  refine ev_alu f_L_law (nx := 1441) rfl rfl rfl rfl ?_
  refine ev_jmp f_L_law (nx := 1621) rfl rfl rfl ?_
  exact kk _ _ _ _ ⟨⟨⟨⟨⟨hI2, hH, hJ2, by omega, by omega⟩, hR2, h72⟩, hT2⟩, hD2⟩, hN2⟩
set_option maxRecDepth 20000 in
theorem lc_40 {X : x_Ext} {c : Nat} {i : Int32} {sh : List (Nat ⊕ (Nat × Nat))} {gi : Nat → Nat → Int32} {gl : Nat → Nat → Int64} {gr : Nat → Nat → Value} {P : Option Value → x_G → Prop} (hL : X.1 ≤ 3072) (h0 : 0 ≤ i.toInt) (h1 : i.toInt + 6 ≤ (X.1 : Int)) (hW : t_LE c sh gi gl gr) (kk : ∀ sh2 gi2 gl2 gr2, t_LE (c + 1) sh2 gi2 gl2 gr2 → x_Ev X 1000 n_L_law 1621 [(3, .int i), (2, .ref 69), (1, .ref 0), (0, .retAddr 30)] [] (sh2, gi2, gl2, gr2) P) : x_Ev X 1000 n_L_law 1444 [(3, .int i), (2, .ref 69), (1, .ref 0), (0, .retAddr 30)] [] (sh, gi, gl, gr) P := by
  obtain ⟨⟨⟨⟨⟨hI, hH, hJ, hz1, hz2⟩, hR, h7⟩, hT⟩, hD⟩, hN⟩ := hW
  have hi6 : i.toInt ≤ 3066 := by omega
  have hm12 := hI.b (hI.wf.s (k := 0) rfl) (t_bdK rfl : t_bd 10 12 = some (0, 3))
  refine ev_loc f_L_law (nx := 1445) rfl rfl rfl rfl ?_
  refine ev_lwc f_L_law (nx := 1448) rfl rfl rfl rfl rfl rfl rfl (x_Me.up (c_h_dearest (d := 0) hI) (by omega)) rfl ?_
  rintro _ _ ⟨g1, l1, r1, rfl, hI1, hX1, x1, rfl, -, -⟩
  have hJ1 := t_J_ext hJ (hX1.1 69 75 rfl).1 (fun j => (hX1.1 70 j rfl).1)
  have f1 := t_F_X hX1
  refine ev_alu f_L_law (nx := 1449) rfl rfl rfl rfl ?_
  refine ev_loc f_L_law (nx := 1450) rfl rfl rfl rfl ?_
  have hm0 : ((0 : Nat) : Int) ≤ (g1 69 75).toInt := (hI1.b (hI1.wf.s (k := 69) rfl) (t_bdK rfl : t_bd 11 75 = some (0, 3))).1
  have hm3 := (hI1.b (hI1.wf.s (k := 69) rfl) (t_bdK rfl : t_bd 11 75 = some (0, 3))).2
  refine ev_lwc f_L_law (nx := 1453) rfl rfl rfl rfl rfl rfl rfl (x_Me.up (c_m_dearest (d := 0) hI1 (hJ1 0 hm0).2) (by omega)) rfl ?_
  rintro _ _ ⟨g2, l2, r2, rfl, hI2, hX2, x2, rfl, -, -⟩
  have hJ2 := t_J_ext hJ1 (hX2.1 69 75 rfl).1 (fun j => (hX2.1 70 j rfl).1)
  have f2 := t_F_X hX2
  have hR2 : t_R g2 r2 := t_L_gen hR f1 f2 (by decide +kernel) (by decide +kernel)
  have h72 := t_L_g7 h7 f1 f2 (by decide +kernel)
  have hT2 : t_TP g2 := t_TP_same hT f1 f2 (by decide +kernel) rfl rfl
  have hD2 := t_DR_same hD hX1 hX2 (by decide +kernel) (fun j hj => (hX2.1 70 j (t_nG (lo := 0) (hi := 1400) rfl (Nat.zero_le _) hj)).1) hm12.2
  have hN1 : (g1 69 46).toInt = -1 := t_N46a hN f1 (by decide +kernel)
  have hN2 : (g2 69 46).toInt = -1 := t_N46 hN f1 f2 (by decide +kernel)
  refine ev_alu f_L_law (nx := 1454) rfl rfl rfl rfl ?_
  refine ev_jmp f_L_law (nx := 1621) rfl rfl rfl ?_
  exact kk _ _ _ _ ⟨⟨⟨⟨⟨hI2, hH, hJ2, by omega, by omega⟩, hR2, h72⟩, hT2⟩, hD2⟩, hN2⟩
set_option maxRecDepth 20000 in
theorem lc_41 {X : x_Ext} {c : Nat} {i : Int32} {sh : List (Nat ⊕ (Nat × Nat))} {gi : Nat → Nat → Int32} {gl : Nat → Nat → Int64} {gr : Nat → Nat → Value} {P : Option Value → x_G → Prop} (hL : X.1 ≤ 3072) (h0 : 0 ≤ i.toInt) (h1 : i.toInt + 6 ≤ (X.1 : Int)) (hW : t_LE c sh gi gl gr) (kk : ∀ sh2 gi2 gl2 gr2, t_LE (c + 1) sh2 gi2 gl2 gr2 → x_Ev X 1000 n_L_law 1621 [(3, .int i), (2, .ref 69), (1, .ref 0), (0, .retAddr 30)] [] (sh2, gi2, gl2, gr2) P) : x_Ev X 1000 n_L_law 1457 [(3, .int i), (2, .ref 69), (1, .ref 0), (0, .retAddr 30)] [] (sh, gi, gl, gr) P := by
  obtain ⟨⟨⟨⟨⟨hI, hH, hJ, hz1, hz2⟩, hR, h7⟩, hT⟩, hD⟩, hN⟩ := hW
  have hi6 : i.toInt ≤ 3066 := by omega
  have hm12 := hI.b (hI.wf.s (k := 0) rfl) (t_bdK rfl : t_bd 10 12 = some (0, 3))
  refine ev_loc f_L_law (nx := 1458) rfl rfl rfl rfl ?_
  refine ev_lwc f_L_law (nx := 1461) rfl rfl rfl rfl rfl rfl rfl (x_Me.up (c_h_opened (d := 0) hI) (by omega)) rfl ?_
  rintro _ _ ⟨g1, l1, r1, rfl, hI1, hX1, x1, rfl, -, -⟩
  have hJ1 := t_J_ext hJ (hX1.1 69 75 rfl).1 (fun j => (hX1.1 70 j rfl).1)
  have f1 := t_F_X hX1
  refine ev_alu f_L_law (nx := 1462) rfl rfl rfl rfl ?_
  refine ev_loc f_L_law (nx := 1463) rfl rfl rfl rfl ?_
  have hm0 : ((0 : Nat) : Int) ≤ (g1 69 75).toInt := (hI1.b (hI1.wf.s (k := 69) rfl) (t_bdK rfl : t_bd 11 75 = some (0, 3))).1
  have hm3 := (hI1.b (hI1.wf.s (k := 69) rfl) (t_bdK rfl : t_bd 11 75 = some (0, 3))).2
  refine ev_lwc f_L_law (nx := 1466) rfl rfl rfl rfl rfl rfl rfl (x_Me.up (c_m_opened (d := 0) hI1 (hJ1 0 hm0).2) (by omega)) rfl ?_
  rintro _ _ ⟨g2, l2, r2, rfl, hI2, hX2, x2, rfl, -, -⟩
  have hJ2 := t_J_ext hJ1 (hX2.1 69 75 rfl).1 (fun j => (hX2.1 70 j rfl).1)
  have f2 := t_F_X hX2
  have hR2 : t_R g2 r2 := t_L_gen hR f1 f2 (by decide +kernel) (by decide +kernel)
  have h72 := t_L_g7 h7 f1 f2 (by decide +kernel)
  have hT2 : t_TP g2 := t_TP_same hT f1 f2 (by decide +kernel) rfl rfl
  have hD2 := t_DR_same hD hX1 hX2 (by decide +kernel) (fun j hj => (hX2.1 70 j (t_nG (lo := 0) (hi := 1400) rfl (Nat.zero_le _) hj)).1) hm12.2
  have hN1 : (g1 69 46).toInt = -1 := t_N46a hN f1 (by decide +kernel)
  have hN2 : (g2 69 46).toInt = -1 := t_N46 hN f1 f2 (by decide +kernel)
  refine ev_alu f_L_law (nx := 1467) rfl rfl rfl rfl ?_
  refine ev_jmp f_L_law (nx := 1621) rfl rfl rfl ?_
  exact kk _ _ _ _ ⟨⟨⟨⟨⟨hI2, hH, hJ2, by omega, by omega⟩, hR2, h72⟩, hT2⟩, hD2⟩, hN2⟩
set_option maxRecDepth 20000 in
theorem lc_42 {X : x_Ext} {c : Nat} {i : Int32} {sh : List (Nat ⊕ (Nat × Nat))} {gi : Nat → Nat → Int32} {gl : Nat → Nat → Int64} {gr : Nat → Nat → Value} {P : Option Value → x_G → Prop} (hL : X.1 ≤ 3072) (h0 : 0 ≤ i.toInt) (h1 : i.toInt + 6 ≤ (X.1 : Int)) (hW : t_LE c sh gi gl gr) (kk : ∀ sh2 gi2 gl2 gr2, t_LE (c + 1) sh2 gi2 gl2 gr2 → x_Ev X 1000 n_L_law 1621 [(3, .int i), (2, .ref 69), (1, .ref 0), (0, .retAddr 30)] [] (sh2, gi2, gl2, gr2) P) : x_Ev X 1000 n_L_law 1470 [(3, .int i), (2, .ref 69), (1, .ref 0), (0, .retAddr 30)] [] (sh, gi, gl, gr) P := by
  obtain ⟨⟨⟨⟨⟨hI, hH, hJ, hz1, hz2⟩, hR, h7⟩, hT⟩, hD⟩, hN⟩ := hW
  have hi6 : i.toInt ≤ 3066 := by omega
  have hm12 := hI.b (hI.wf.s (k := 0) rfl) (t_bdK rfl : t_bd 10 12 = some (0, 3))
  refine ev_loc f_L_law (nx := 1471) rfl rfl rfl rfl ?_
  refine ev_lwc f_L_law (nx := 1474) rfl rfl rfl rfl rfl rfl rfl (x_Me.up (c_h_busiest (d := 0) hI) (by omega)) rfl ?_
  rintro _ _ ⟨g1, l1, r1, rfl, hI1, hX1, x1, rfl, -, -⟩
  have hJ1 := t_J_ext hJ (hX1.1 69 75 rfl).1 (fun j => (hX1.1 70 j rfl).1)
  have f1 := t_F_X hX1
  refine ev_alu f_L_law (nx := 1475) rfl rfl rfl rfl ?_
  refine ev_loc f_L_law (nx := 1476) rfl rfl rfl rfl ?_
  have hm0 : ((0 : Nat) : Int) ≤ (g1 69 75).toInt := (hI1.b (hI1.wf.s (k := 69) rfl) (t_bdK rfl : t_bd 11 75 = some (0, 3))).1
  have hm3 := (hI1.b (hI1.wf.s (k := 69) rfl) (t_bdK rfl : t_bd 11 75 = some (0, 3))).2
  refine ev_lwc f_L_law (nx := 1479) rfl rfl rfl rfl rfl rfl rfl (x_Me.up (c_m_busiest (d := 0) hI1 (hJ1 0 hm0).2) (by omega)) rfl ?_
  rintro _ _ ⟨g2, l2, r2, rfl, hI2, hX2, x2, rfl, -, -⟩
  have hJ2 := t_J_ext hJ1 (hX2.1 69 75 rfl).1 (fun j => (hX2.1 70 j rfl).1)
  have f2 := t_F_X hX2
  have hR2 : t_R g2 r2 := t_L_gen hR f1 f2 (by decide +kernel) (by decide +kernel)
  have h72 := t_L_g7 h7 f1 f2 (by decide +kernel)
  have hT2 : t_TP g2 := t_TP_same hT f1 f2 (by decide +kernel) rfl rfl
  have hD2 := t_DR_same hD hX1 hX2 (by decide +kernel) (fun j hj => (hX2.1 70 j (t_nG (lo := 0) (hi := 1400) rfl (Nat.zero_le _) hj)).1) hm12.2
  have hN1 : (g1 69 46).toInt = -1 := t_N46a hN f1 (by decide +kernel)
  have hN2 : (g2 69 46).toInt = -1 := t_N46 hN f1 f2 (by decide +kernel)
  refine ev_alu f_L_law (nx := 1480) rfl rfl rfl rfl ?_
  refine ev_jmp f_L_law (nx := 1621) rfl rfl rfl ?_
  exact kk _ _ _ _ ⟨⟨⟨⟨⟨hI2, hH, hJ2, by omega, by omega⟩, hR2, h72⟩, hT2⟩, hD2⟩, hN2⟩
set_option maxRecDepth 20000 in
theorem lc_43 {X : x_Ext} {c : Nat} {i : Int32} {sh : List (Nat ⊕ (Nat × Nat))} {gi : Nat → Nat → Int32} {gl : Nat → Nat → Int64} {gr : Nat → Nat → Value} {P : Option Value → x_G → Prop} (hL : X.1 ≤ 3072) (h0 : 0 ≤ i.toInt) (h1 : i.toInt + 6 ≤ (X.1 : Int)) (hW : t_LE c sh gi gl gr) (kk : ∀ sh2 gi2 gl2 gr2, t_LE (c + 1) sh2 gi2 gl2 gr2 → x_Ev X 1000 n_L_law 1621 [(3, .int i), (2, .ref 69), (1, .ref 0), (0, .retAddr 30)] [] (sh2, gi2, gl2, gr2) P) : x_Ev X 1000 n_L_law 1483 [(3, .int i), (2, .ref 69), (1, .ref 0), (0, .retAddr 30)] [] (sh, gi, gl, gr) P := by
  obtain ⟨⟨⟨⟨⟨hI, hH, hJ, hz1, hz2⟩, hR, h7⟩, hT⟩, hD⟩, hN⟩ := hW
  have hk1 : (i + 1).toInt = i.toInt + 1 := t_ik rfl h0 (by omega) (by decide)
  obtain ⟨A1, hA1⟩ : ∃ v, X.2 (i + 1).toNatClampNeg = v := ⟨_, rfl⟩
  have hi6 : i.toInt ≤ 3066 := by omega
  have hm12 := hI.b (hI.wf.s (k := 0) rfl) (t_bdK rfl : t_bd 10 12 = some (0, 3))
  refine ev_loc f_L_law (nx := 1484) rfl rfl rfl rfl ?_
  refine ev_loc f_L_law (nx := 1485) rfl rfl rfl rfl ?_
  refine ev_loc f_L_law (nx := 1486) rfl rfl rfl rfl ?_
  refine ev_ic f_L_law (nx := 1487) (v := 1) rfl (by decide) rfl ?_
  refine ev_alu f_L_law (nx := 1488) rfl rfl rfl rfl ?_
  refine ev_scx f_L_law (nx := 1489) (w := A1) rfl (by rw [hk1]; omega) (by rw [hk1]; omega) hA1 rfl ?_
  refine ev_lwc f_L_law (nx := 1492) rfl rfl rfl rfl rfl rfl rfl (x_Me.up (c_h_keep (d := 0) hI (A1)) (by omega)) rfl ?_
  rintro _ _ ⟨g1, l1, r1, rfl, hI1, hX1, x1, rfl, -, -⟩
  have hJ1 := t_J_ext hJ (hX1.1 69 75 rfl).1 (fun j => (hX1.1 70 j rfl).1)
  have f1 := t_F_X hX1
  refine ev_alu f_L_law (nx := 1493) rfl rfl rfl rfl ?_
  refine ev_loc f_L_law (nx := 1494) rfl rfl rfl rfl ?_
  refine ev_loc f_L_law (nx := 1495) rfl rfl rfl rfl ?_
  refine ev_loc f_L_law (nx := 1496) rfl rfl rfl rfl ?_
  refine ev_ic f_L_law (nx := 1497) (v := 1) rfl (by decide) rfl ?_
  refine ev_alu f_L_law (nx := 1498) rfl rfl rfl rfl ?_
  refine ev_scx f_L_law (nx := 1499) (w := A1) rfl (by rw [hk1]; omega) (by rw [hk1]; omega) hA1 rfl ?_
  have hm0 : ((0 : Nat) : Int) ≤ (g1 69 75).toInt := (hI1.b (hI1.wf.s (k := 69) rfl) (t_bdK rfl : t_bd 11 75 = some (0, 3))).1
  have hm3 := (hI1.b (hI1.wf.s (k := 69) rfl) (t_bdK rfl : t_bd 11 75 = some (0, 3))).2
  refine ev_lwc f_L_law (nx := 1502) rfl rfl rfl rfl rfl rfl rfl (x_Me.up (c_m_keep (d := 0) hI1 (A1) (hJ1 0 hm0).1) (by omega)) rfl ?_
  rintro _ _ ⟨g2, l2, r2, rfl, hI2, hX2, x2, rfl, -, -⟩
  have hJ2 := t_J_ext hJ1 (hX2.1 69 75 rfl).1 (fun j => (hX2.1 70 j rfl).1)
  have f2 := t_F_X hX2
  have hR2 : t_R g2 r2 := t_L_gen hR f1 f2 (by decide +kernel) (by decide +kernel)
  have h72 := t_L_g7 h7 f1 f2 (by decide +kernel)
  have hT2 : t_TP g2 := t_TP_same hT f1 f2 (by decide +kernel) rfl rfl
  have hD2 := t_DR_same hD hX1 hX2 (by decide +kernel) (fun j hj => (hX2.1 70 j (t_nG (lo := 0) (hi := 1400) rfl (Nat.zero_le _) hj)).1) hm12.2
  have hN1 : (g1 69 46).toInt = -1 := t_N46a hN f1 (by decide +kernel)
  have hN2 : (g2 69 46).toInt = -1 := t_N46 hN f1 f2 (by decide +kernel)
  refine ev_alu f_L_law (nx := 1503) rfl rfl rfl rfl ?_
  refine ev_jmp f_L_law (nx := 1621) rfl rfl rfl ?_
  exact kk _ _ _ _ ⟨⟨⟨⟨⟨hI2, hH, hJ2, by omega, by omega⟩, hR2, h72⟩, hT2⟩, hD2⟩, hN2⟩
set_option maxRecDepth 20000 in
theorem lc_44 {X : x_Ext} {c : Nat} {i : Int32} {sh : List (Nat ⊕ (Nat × Nat))} {gi : Nat → Nat → Int32} {gl : Nat → Nat → Int64} {gr : Nat → Nat → Value} {P : Option Value → x_G → Prop} (hL : X.1 ≤ 3072) (h0 : 0 ≤ i.toInt) (h1 : i.toInt + 6 ≤ (X.1 : Int)) (hW : t_LE c sh gi gl gr) (kk : ∀ sh2 gi2 gl2 gr2, t_LE (c + 1) sh2 gi2 gl2 gr2 → x_Ev X 1000 n_L_law 1621 [(3, .int i), (2, .ref 69), (1, .ref 0), (0, .retAddr 30)] [] (sh2, gi2, gl2, gr2) P) : x_Ev X 1000 n_L_law 1506 [(3, .int i), (2, .ref 69), (1, .ref 0), (0, .retAddr 30)] [] (sh, gi, gl, gr) P := by
  obtain ⟨⟨⟨⟨⟨hI, hH, hJ, hz1, hz2⟩, hR, h7⟩, hT⟩, hD⟩, hN⟩ := hW
  have hk1 : (i + 1).toInt = i.toInt + 1 := t_ik rfl h0 (by omega) (by decide)
  obtain ⟨A1, hA1⟩ : ∃ v, X.2 (i + 1).toNatClampNeg = v := ⟨_, rfl⟩
  have hi6 : i.toInt ≤ 3066 := by omega
  have hm12 := hI.b (hI.wf.s (k := 0) rfl) (t_bdK rfl : t_bd 10 12 = some (0, 3))
  refine ev_loc f_L_law (nx := 1507) rfl rfl rfl rfl ?_
  refine ev_loc f_L_law (nx := 1508) rfl rfl rfl rfl ?_
  refine ev_loc f_L_law (nx := 1509) rfl rfl rfl rfl ?_
  refine ev_ic f_L_law (nx := 1510) (v := 1) rfl (by decide) rfl ?_
  refine ev_alu f_L_law (nx := 1511) rfl rfl rfl rfl ?_
  refine ev_scx f_L_law (nx := 1512) (w := A1) rfl (by rw [hk1]; omega) (by rw [hk1]; omega) hA1 rfl ?_
  refine ev_lwc f_L_law (nx := 1515) rfl rfl rfl rfl rfl rfl rfl (x_Me.up (c_h_kept (d := 0) hI (A1)) (by omega)) rfl ?_
  rintro _ _ ⟨g1, l1, r1, rfl, hI1, hX1, x1, rfl, -, -⟩
  have hJ1 := t_J_ext hJ (hX1.1 69 75 rfl).1 (fun j => (hX1.1 70 j rfl).1)
  have f1 := t_F_X hX1
  refine ev_alu f_L_law (nx := 1516) rfl rfl rfl rfl ?_
  refine ev_loc f_L_law (nx := 1517) rfl rfl rfl rfl ?_
  refine ev_loc f_L_law (nx := 1518) rfl rfl rfl rfl ?_
  refine ev_loc f_L_law (nx := 1519) rfl rfl rfl rfl ?_
  refine ev_ic f_L_law (nx := 1520) (v := 1) rfl (by decide) rfl ?_
  refine ev_alu f_L_law (nx := 1521) rfl rfl rfl rfl ?_
  refine ev_scx f_L_law (nx := 1522) (w := A1) rfl (by rw [hk1]; omega) (by rw [hk1]; omega) hA1 rfl ?_
  have hm0 : ((0 : Nat) : Int) ≤ (g1 69 75).toInt := (hI1.b (hI1.wf.s (k := 69) rfl) (t_bdK rfl : t_bd 11 75 = some (0, 3))).1
  have hm3 := (hI1.b (hI1.wf.s (k := 69) rfl) (t_bdK rfl : t_bd 11 75 = some (0, 3))).2
  refine ev_lwc f_L_law (nx := 1525) rfl rfl rfl rfl rfl rfl rfl (x_Me.up (c_m_kept (d := 0) hI1 (A1)) (by omega)) rfl ?_
  rintro _ _ ⟨g2, l2, r2, rfl, hI2, hX2, x2, rfl, -, -⟩
  have hJ2 := t_J_ext hJ1 (hX2.1 69 75 rfl).1 (fun j => (hX2.1 70 j rfl).1)
  have f2 := t_F_X hX2
  have hR2 : t_R g2 r2 := t_L_gen hR f1 f2 (by decide +kernel) (by decide +kernel)
  have h72 := t_L_g7 h7 f1 f2 (by decide +kernel)
  have hT2 : t_TP g2 := t_TP_same hT f1 f2 (by decide +kernel) rfl rfl
  have hD2 := t_DR_same hD hX1 hX2 (by decide +kernel) (fun j hj => (hX2.1 70 j (t_nG (lo := 0) (hi := 1400) rfl (Nat.zero_le _) hj)).1) hm12.2
  have hN1 : (g1 69 46).toInt = -1 := t_N46a hN f1 (by decide +kernel)
  have hN2 : (g2 69 46).toInt = -1 := t_N46 hN f1 f2 (by decide +kernel)
  refine ev_alu f_L_law (nx := 1526) rfl rfl rfl rfl ?_
  refine ev_jmp f_L_law (nx := 1621) rfl rfl rfl ?_
  exact kk _ _ _ _ ⟨⟨⟨⟨⟨hI2, hH, hJ2, by omega, by omega⟩, hR2, h72⟩, hT2⟩, hD2⟩, hN2⟩
set_option maxRecDepth 20000 in
theorem lc_45 {X : x_Ext} {c : Nat} {i : Int32} {sh : List (Nat ⊕ (Nat × Nat))} {gi : Nat → Nat → Int32} {gl : Nat → Nat → Int64} {gr : Nat → Nat → Value} {P : Option Value → x_G → Prop} (hL : X.1 ≤ 3072) (h0 : 0 ≤ i.toInt) (h1 : i.toInt + 6 ≤ (X.1 : Int)) (hW : t_LE c sh gi gl gr) (kk : ∀ sh2 gi2 gl2 gr2, t_LE (c + 1) sh2 gi2 gl2 gr2 → x_Ev X 1000 n_L_law 1621 [(3, .int i), (2, .ref 69), (1, .ref 0), (0, .retAddr 30)] [] (sh2, gi2, gl2, gr2) P) : x_Ev X 1000 n_L_law 1529 [(3, .int i), (2, .ref 69), (1, .ref 0), (0, .retAddr 30)] [] (sh, gi, gl, gr) P := by
  obtain ⟨⟨⟨⟨⟨hI, hH, hJ, hz1, hz2⟩, hR, h7⟩, hT⟩, hD⟩, hN⟩ := hW
  have hk1 : (i + 1).toInt = i.toInt + 1 := t_ik rfl h0 (by omega) (by decide)
  obtain ⟨A1, hA1⟩ : ∃ v, X.2 (i + 1).toNatClampNeg = v := ⟨_, rfl⟩
  have hk2 : (i + 2).toInt = i.toInt + 2 := t_ik rfl h0 (by omega) (by decide)
  obtain ⟨A2, hA2⟩ : ∃ v, X.2 (i + 2).toNatClampNeg = v := ⟨_, rfl⟩
  have hi6 : i.toInt ≤ 3066 := by omega
  have hm12 := hI.b (hI.wf.s (k := 0) rfl) (t_bdK rfl : t_bd 10 12 = some (0, 3))
  refine ev_loc f_L_law (nx := 1530) rfl rfl rfl rfl ?_
  refine ev_loc f_L_law (nx := 1531) rfl rfl rfl rfl ?_
  refine ev_loc f_L_law (nx := 1532) rfl rfl rfl rfl ?_
  refine ev_ic f_L_law (nx := 1533) (v := 1) rfl (by decide) rfl ?_
  refine ev_alu f_L_law (nx := 1534) rfl rfl rfl rfl ?_
  refine ev_scx f_L_law (nx := 1535) (w := A1) rfl (by rw [hk1]; omega) (by rw [hk1]; omega) hA1 rfl ?_
  refine ev_loc f_L_law (nx := 1536) rfl rfl rfl rfl ?_
  refine ev_loc f_L_law (nx := 1537) rfl rfl rfl rfl ?_
  refine ev_ic f_L_law (nx := 1538) (v := 2) rfl (by decide) rfl ?_
  refine ev_alu f_L_law (nx := 1539) rfl rfl rfl rfl ?_
  refine ev_scx f_L_law (nx := 1540) (w := A2) rfl (by rw [hk2]; omega) (by rw [hk2]; omega) hA2 rfl ?_
  refine ev_lwc f_L_law (nx := 1543) rfl rfl rfl rfl rfl rfl rfl (x_Me.up (c_h_odds (d := 0) hI (A1) (A2)) (by omega)) rfl ?_
  rintro _ _ ⟨g1, l1, r1, rfl, hI1, hX1, x1, rfl, -, -⟩
  have hJ1 := t_J_ext hJ (hX1.1 69 75 rfl).1 (fun j => (hX1.1 70 j rfl).1)
  have f1 := t_F_X hX1
  refine ev_alu f_L_law (nx := 1544) rfl rfl rfl rfl ?_
  refine ev_loc f_L_law (nx := 1545) rfl rfl rfl rfl ?_
  refine ev_loc f_L_law (nx := 1546) rfl rfl rfl rfl ?_
  refine ev_loc f_L_law (nx := 1547) rfl rfl rfl rfl ?_
  refine ev_ic f_L_law (nx := 1548) (v := 1) rfl (by decide) rfl ?_
  refine ev_alu f_L_law (nx := 1549) rfl rfl rfl rfl ?_
  refine ev_scx f_L_law (nx := 1550) (w := A1) rfl (by rw [hk1]; omega) (by rw [hk1]; omega) hA1 rfl ?_
  refine ev_loc f_L_law (nx := 1551) rfl rfl rfl rfl ?_
  refine ev_loc f_L_law (nx := 1552) rfl rfl rfl rfl ?_
  refine ev_ic f_L_law (nx := 1553) (v := 2) rfl (by decide) rfl ?_
  refine ev_alu f_L_law (nx := 1554) rfl rfl rfl rfl ?_
  refine ev_scx f_L_law (nx := 1555) (w := A2) rfl (by rw [hk2]; omega) (by rw [hk2]; omega) hA2 rfl ?_
  have hm0 : ((0 : Nat) : Int) ≤ (g1 69 75).toInt := (hI1.b (hI1.wf.s (k := 69) rfl) (t_bdK rfl : t_bd 11 75 = some (0, 3))).1
  have hm3 := (hI1.b (hI1.wf.s (k := 69) rfl) (t_bdK rfl : t_bd 11 75 = some (0, 3))).2
  refine ev_lwc f_L_law (nx := 1558) rfl rfl rfl rfl rfl rfl rfl (x_Me.up (c_m_odds (d := 0) hI1 (A1) (A2) (hJ1 0 hm0).1) (by omega)) rfl ?_
  rintro _ _ ⟨g2, l2, r2, rfl, hI2, hX2, x2, rfl, -, -⟩
  have hJ2 := t_J_ext hJ1 (hX2.1 69 75 rfl).1 (fun j => (hX2.1 70 j rfl).1)
  have f2 := t_F_X hX2
  have hR2 : t_R g2 r2 := t_L_gen hR f1 f2 (by decide +kernel) (by decide +kernel)
  have h72 := t_L_g7 h7 f1 f2 (by decide +kernel)
  have hT2 : t_TP g2 := t_TP_same hT f1 f2 (by decide +kernel) rfl rfl
  have hD2 := t_DR_same hD hX1 hX2 (by decide +kernel) (fun j hj => (hX2.1 70 j (t_nG (lo := 0) (hi := 1400) rfl (Nat.zero_le _) hj)).1) hm12.2
  have hN1 : (g1 69 46).toInt = -1 := t_N46a hN f1 (by decide +kernel)
  have hN2 : (g2 69 46).toInt = -1 := t_N46 hN f1 f2 (by decide +kernel)
  refine ev_alu f_L_law (nx := 1559) rfl rfl rfl rfl ?_
  refine ev_jmp f_L_law (nx := 1621) rfl rfl rfl ?_
  exact kk _ _ _ _ ⟨⟨⟨⟨⟨hI2, hH, hJ2, by omega, by omega⟩, hR2, h72⟩, hT2⟩, hD2⟩, hN2⟩
set_option maxRecDepth 20000 in
theorem lc_46 {X : x_Ext} {c : Nat} {i : Int32} {sh : List (Nat ⊕ (Nat × Nat))} {gi : Nat → Nat → Int32} {gl : Nat → Nat → Int64} {gr : Nat → Nat → Value} {P : Option Value → x_G → Prop} (hL : X.1 ≤ 3072) (h0 : 0 ≤ i.toInt) (h1 : i.toInt + 6 ≤ (X.1 : Int)) (hW : t_LE c sh gi gl gr) (kk : ∀ sh2 gi2 gl2 gr2, t_LE (c + 1) sh2 gi2 gl2 gr2 → x_Ev X 1000 n_L_law 1621 [(3, .int i), (2, .ref 69), (1, .ref 0), (0, .retAddr 30)] [] (sh2, gi2, gl2, gr2) P) : x_Ev X 1000 n_L_law 1562 [(3, .int i), (2, .ref 69), (1, .ref 0), (0, .retAddr 30)] [] (sh, gi, gl, gr) P := by
  obtain ⟨⟨⟨⟨⟨hI, hH, hJ, hz1, hz2⟩, hR, h7⟩, hT⟩, hD⟩, hN⟩ := hW
  have hk1 : (i + 1).toInt = i.toInt + 1 := t_ik rfl h0 (by omega) (by decide)
  obtain ⟨A1, hA1⟩ : ∃ v, X.2 (i + 1).toNatClampNeg = v := ⟨_, rfl⟩
  have hk2 : (i + 2).toInt = i.toInt + 2 := t_ik rfl h0 (by omega) (by decide)
  obtain ⟨A2, hA2⟩ : ∃ v, X.2 (i + 2).toNatClampNeg = v := ⟨_, rfl⟩
  have hi6 : i.toInt ≤ 3066 := by omega
  have hm12 := hI.b (hI.wf.s (k := 0) rfl) (t_bdK rfl : t_bd 10 12 = some (0, 3))
  refine ev_loc f_L_law (nx := 1563) rfl rfl rfl rfl ?_
  refine ev_loc f_L_law (nx := 1564) rfl rfl rfl rfl ?_
  refine ev_loc f_L_law (nx := 1565) rfl rfl rfl rfl ?_
  refine ev_ic f_L_law (nx := 1566) (v := 1) rfl (by decide) rfl ?_
  refine ev_alu f_L_law (nx := 1567) rfl rfl rfl rfl ?_
  refine ev_scx f_L_law (nx := 1568) (w := A1) rfl (by rw [hk1]; omega) (by rw [hk1]; omega) hA1 rfl ?_
  refine ev_loc f_L_law (nx := 1569) rfl rfl rfl rfl ?_
  refine ev_loc f_L_law (nx := 1570) rfl rfl rfl rfl ?_
  refine ev_ic f_L_law (nx := 1571) (v := 2) rfl (by decide) rfl ?_
  refine ev_alu f_L_law (nx := 1572) rfl rfl rfl rfl ?_
  refine ev_scx f_L_law (nx := 1573) (w := A2) rfl (by rw [hk2]; omega) (by rw [hk2]; omega) hA2 rfl ?_
  refine ev_lwc f_L_law (nx := 1576) rfl rfl rfl rfl rfl rfl rfl (x_Me.up (c_h_waits (d := 0) hI (A1) (A2)) (by omega)) rfl ?_
  rintro _ _ ⟨g1, l1, r1, rfl, hI1, hX1, x1, rfl, -, -⟩
  have hJ1 := t_J_ext hJ (hX1.1 69 75 rfl).1 (fun j => (hX1.1 70 j rfl).1)
  have f1 := t_F_X hX1
  refine ev_alu f_L_law (nx := 1577) rfl rfl rfl rfl ?_
  refine ev_loc f_L_law (nx := 1578) rfl rfl rfl rfl ?_
  refine ev_loc f_L_law (nx := 1579) rfl rfl rfl rfl ?_
  refine ev_loc f_L_law (nx := 1580) rfl rfl rfl rfl ?_
  refine ev_ic f_L_law (nx := 1581) (v := 1) rfl (by decide) rfl ?_
  refine ev_alu f_L_law (nx := 1582) rfl rfl rfl rfl ?_
  refine ev_scx f_L_law (nx := 1583) (w := A1) rfl (by rw [hk1]; omega) (by rw [hk1]; omega) hA1 rfl ?_
  refine ev_loc f_L_law (nx := 1584) rfl rfl rfl rfl ?_
  refine ev_loc f_L_law (nx := 1585) rfl rfl rfl rfl ?_
  refine ev_ic f_L_law (nx := 1586) (v := 2) rfl (by decide) rfl ?_
  refine ev_alu f_L_law (nx := 1587) rfl rfl rfl rfl ?_
  refine ev_scx f_L_law (nx := 1588) (w := A2) rfl (by rw [hk2]; omega) (by rw [hk2]; omega) hA2 rfl ?_
  have hm0 : ((0 : Nat) : Int) ≤ (g1 69 75).toInt := (hI1.b (hI1.wf.s (k := 69) rfl) (t_bdK rfl : t_bd 11 75 = some (0, 3))).1
  have hm3 := (hI1.b (hI1.wf.s (k := 69) rfl) (t_bdK rfl : t_bd 11 75 = some (0, 3))).2
  refine ev_lwc f_L_law (nx := 1591) rfl rfl rfl rfl rfl rfl rfl (x_Me.up (c_m_waits (d := 0) hI1 (A1) (A2) (hJ1 0 hm0).1) (by omega)) rfl ?_
  rintro _ _ ⟨g2, l2, r2, rfl, hI2, hX2, x2, rfl, -, -⟩
  have hJ2 := t_J_ext hJ1 (hX2.1 69 75 rfl).1 (fun j => (hX2.1 70 j rfl).1)
  have f2 := t_F_X hX2
  have hR2 : t_R g2 r2 := t_L_gen hR f1 f2 (by decide +kernel) (by decide +kernel)
  have h72 := t_L_g7 h7 f1 f2 (by decide +kernel)
  have hT2 : t_TP g2 := t_TP_same hT f1 f2 (by decide +kernel) rfl rfl
  have hD2 := t_DR_same hD hX1 hX2 (by decide +kernel) (fun j hj => (hX2.1 70 j (t_nG (lo := 0) (hi := 1400) rfl (Nat.zero_le _) hj)).1) hm12.2
  have hN1 : (g1 69 46).toInt = -1 := t_N46a hN f1 (by decide +kernel)
  have hN2 : (g2 69 46).toInt = -1 := t_N46 hN f1 f2 (by decide +kernel)
  refine ev_alu f_L_law (nx := 1592) rfl rfl rfl rfl ?_
  refine ev_jmp f_L_law (nx := 1621) rfl rfl rfl ?_
  exact kk _ _ _ _ ⟨⟨⟨⟨⟨hI2, hH, hJ2, by omega, by omega⟩, hR2, h72⟩, hT2⟩, hD2⟩, hN2⟩
set_option maxRecDepth 20000 in
theorem lc_47 {X : x_Ext} {c : Nat} {i : Int32} {sh : List (Nat ⊕ (Nat × Nat))} {gi : Nat → Nat → Int32} {gl : Nat → Nat → Int64} {gr : Nat → Nat → Value} {P : Option Value → x_G → Prop} (hL : X.1 ≤ 3072) (h0 : 0 ≤ i.toInt) (h1 : i.toInt + 6 ≤ (X.1 : Int)) (hW : t_LE c sh gi gl gr) (kk : ∀ sh2 gi2 gl2 gr2, t_LE (c + 1) sh2 gi2 gl2 gr2 → x_Ev X 1000 n_L_law 1621 [(3, .int i), (2, .ref 69), (1, .ref 0), (0, .retAddr 30)] [] (sh2, gi2, gl2, gr2) P) : x_Ev X 1000 n_L_law 1595 [(3, .int i), (2, .ref 69), (1, .ref 0), (0, .retAddr 30)] [] (sh, gi, gl, gr) P := by
  obtain ⟨⟨⟨⟨⟨hI, hH, hJ, hz1, hz2⟩, hR, h7⟩, hT⟩, hD⟩, hN⟩ := hW
  have hi6 : i.toInt ≤ 3066 := by omega
  have hm12 := hI.b (hI.wf.s (k := 0) rfl) (t_bdK rfl : t_bd 10 12 = some (0, 3))
  refine ev_loc f_L_law (nx := 1596) rfl rfl rfl rfl ?_
  refine ev_lwc f_L_law (nx := 1599) rfl rfl rfl rfl rfl rfl rfl (x_Me.up (((x_Me.up (d' := 900) (c_h_mark2 (d := 0) hI hR.2) (by omega)).and (x_Me.up (d' := 900) (c_d_mark (d := 0) hI ) (by omega)))) (by omega)) rfl ?_
  rintro _ _ ⟨⟨g1, l1, r1, rfl, hI1, hX1, x1, rfl, bb1, cc1, q1⟩, hq1⟩
  obtain ⟨g9, l9, r9, e9, -, -, x9, e8, -, -, qs1⟩ := hq1
  cases e9; cases e8
  have hJ1 := t_J_ext hJ (hX1.1 69 75 rfl).1 (fun j => (hX1.1 70 j rfl).1)
  have f1 := t_F_X hX1
  refine ev_alu f_L_law (nx := 1600) rfl rfl rfl rfl ?_
  refine ev_loc f_L_law (nx := 1601) rfl rfl rfl rfl ?_
  have hm0 : ((0 : Nat) : Int) ≤ (g1 69 75).toInt := (hI1.b (hI1.wf.s (k := 69) rfl) (t_bdK rfl : t_bd 11 75 = some (0, 3))).1
  have hm3 := (hI1.b (hI1.wf.s (k := 69) rfl) (t_bdK rfl : t_bd 11 75 = some (0, 3))).2
  refine ev_lwc f_L_law (nx := 1604) rfl rfl rfl rfl rfl rfl rfl (x_Me.up (c_m_mark (d := 0) hI1) (by omega)) rfl ?_
  rintro _ _ ⟨g2, l2, r2, rfl, hI2, hX2, x2, rfl, bb2, cc2, q2⟩
  have hJ2 : t_J g2 := by
    by_cases h3 : (g1 69 75).toInt = 3
    · obtain ⟨-, h4, h5⟩ := q2.1 h3
      exact t_J_ext hJ1 (Int32.toInt_inj.mp (by omega)) (fun j => by rw [h5])
    · obtain ⟨-, h4, h5⟩ := q2.2 h3
      exact t_J_mark (m := (g1 69 75).toInt.toNat) hI1 hJ1 (by omega) (by omega) (by omega) h5
  have f2 := t_F_X hX2
  obtain ⟨hA, hR2⟩ := t_L_mark (x1 := x1) (x2 := x2) hR f1 f2 rfl rfl (fun h => by
      by_cases h3 : (gi 0 12).toInt = 3
      · obtain ⟨p1, p2⟩ := q1.1 h3
        obtain ⟨p3, p4, -⟩ := q2.1 (by omega)
        exact ⟨by omega, by omega⟩
      · obtain ⟨p1, p2⟩ := q1.2.1 h3
        obtain ⟨p3, p4, -⟩ := q2.2 (by omega)
        exact ⟨by omega, by omega⟩) q1.2.2 (by decide +kernel) (by decide +kernel)
  have h72 := t_L_g7 h7 f1 f2 (by decide +kernel)
  have hT2 : t_TP g2 := t_TP_same hT f1 f2 (by decide +kernel) rfl rfl
  have hD2 := t_DR_mark hR hD hm12.1 hm12.2 hX1 (by decide +kernel) hX2 (by decide +kernel) ⟨fun h => (q1.1 h).2, fun h => (q1.2.1 h).2⟩ qs1 ⟨fun h => (q2.1 h).2.2, fun h => (q2.2 h).2.2⟩
  have hN1 : (g1 69 46).toInt = -1 := t_N46a hN f1 (by decide +kernel)
  have hN2 : (g2 69 46).toInt = -1 := t_N46 hN f1 f2 (by decide +kernel)
  refine ev_alu f_L_law (nx := 1605) rfl rfl rfl rfl ?_
  refine ev_jmp f_L_law (nx := 1621) rfl rfl rfl ?_
  exact kk _ _ _ _ ⟨⟨⟨⟨⟨hI2, hH, hJ2, by omega, by omega⟩, hR2, h72⟩, hT2⟩, hD2⟩, hN2⟩
set_option maxRecDepth 20000 in
theorem lc_48 {X : x_Ext} {c : Nat} {i : Int32} {sh : List (Nat ⊕ (Nat × Nat))} {gi : Nat → Nat → Int32} {gl : Nat → Nat → Int64} {gr : Nat → Nat → Value} {P : Option Value → x_G → Prop} (hL : X.1 ≤ 3072) (h0 : 0 ≤ i.toInt) (h1 : i.toInt + 6 ≤ (X.1 : Int)) (hW : t_LE c sh gi gl gr) (kk : ∀ sh2 gi2 gl2 gr2, t_LE (c + 1) sh2 gi2 gl2 gr2 → x_Ev X 1000 n_L_law 1621 [(3, .int i), (2, .ref 69), (1, .ref 0), (0, .retAddr 30)] [] (sh2, gi2, gl2, gr2) P) : x_Ev X 1000 n_L_law 1608 [(3, .int i), (2, .ref 69), (1, .ref 0), (0, .retAddr 30)] [] (sh, gi, gl, gr) P := by
  obtain ⟨⟨⟨⟨⟨hI, hH, hJ, hz1, hz2⟩, hR, h7⟩, hT⟩, hD⟩, hN⟩ := hW
  have hi6 : i.toInt ≤ 3066 := by omega
  have hm12 := hI.b (hI.wf.s (k := 0) rfl) (t_bdK rfl : t_bd 10 12 = some (0, 3))
  refine ev_loc f_L_law (nx := 1609) rfl rfl rfl rfl ?_
  refine ev_lwc f_L_law (nx := 1612) rfl rfl rfl rfl rfl rfl rfl (x_Me.up (((x_Me.up (d' := 900) (c_h_back2 (d := 0) hI hR.2) (by omega)).and (x_Me.up (d' := 900) (c_d_back (d := 0) hI hR.2 ) (by omega)))) (by omega)) rfl ?_
  rintro _ _ ⟨⟨g1, l1, r1, rfl, hI1, hX1, x1, rfl, bb1, cc1, q1⟩, hq1⟩
  obtain ⟨g9, l9, r9, e9, -, -, x9, e8, -, -, qs1⟩ := hq1
  cases e9; cases e8
  have hJ1 := t_J_ext hJ (hX1.1 69 75 rfl).1 (fun j => (hX1.1 70 j rfl).1)
  have f1 := t_F_X hX1
  refine ev_alu f_L_law (nx := 1613) rfl rfl rfl rfl ?_
  refine ev_loc f_L_law (nx := 1614) rfl rfl rfl rfl ?_
  have hm0 : ((0 : Nat) : Int) ≤ (g1 69 75).toInt := (hI1.b (hI1.wf.s (k := 69) rfl) (t_bdK rfl : t_bd 11 75 = some (0, 3))).1
  have hm3 := (hI1.b (hI1.wf.s (k := 69) rfl) (t_bdK rfl : t_bd 11 75 = some (0, 3))).2
  refine ev_lwc f_L_law (nx := 1617) rfl rfl rfl rfl rfl rfl rfl (x_Me.up (c_m_back (d := 0) hI1) (by omega)) rfl ?_
  rintro _ _ ⟨g2, l2, r2, rfl, hI2, hX2, x2, rfl, bb2, cc2, q2⟩
  have hJ2 : t_J g2 := by
    by_cases h3 : (g1 69 75).toInt = 0
    · obtain ⟨-, h4, h5⟩ := q2.1 h3
      exact t_J_ext hJ1 (Int32.toInt_inj.mp (by omega)) (fun j => by rw [h5])
    · obtain ⟨-, h4, h5⟩ := q2.2 h3
      exact t_J_back (m := (g1 69 75).toInt.toNat) hI1 hJ1 (by omega) (by omega) (by omega) (by omega) h5
  have f2 := t_F_X hX2
  obtain ⟨hA, hR2⟩ := t_L_mark (x1 := x1) (x2 := x2) hR f1 f2 rfl rfl (fun h => by
      by_cases h3 : (gi 0 12).toInt = 0
      · obtain ⟨p1, p2⟩ := q1.1 h3
        obtain ⟨p3, p4, -⟩ := q2.1 (by omega)
        exact ⟨by omega, by omega⟩
      · obtain ⟨p1, p2⟩ := q1.2.1 h3
        obtain ⟨p3, p4, -⟩ := q2.2 (by omega)
        exact ⟨by omega, by omega⟩) q1.2.2 (by decide +kernel) (by decide +kernel)
  have h72 := t_L_g7 h7 f1 f2 (by decide +kernel)
  have hT2 : t_TP g2 := t_TP_same hT f1 f2 (by decide +kernel) rfl rfl
  have hD2 := t_DR_back hR hD hm12.1 hm12.2 hX1 (by decide +kernel) hX2 (by decide +kernel) ⟨fun h => (q1.1 h).2, fun h => (q1.2.1 h).2⟩ qs1 ⟨fun h => (q2.1 h).2.2, fun h => (q2.2 h).2.2⟩
  have hN1 : (g1 69 46).toInt = -1 := t_N46a hN f1 (by decide +kernel)
  have hN2 : (g2 69 46).toInt = -1 := t_N46 hN f1 f2 (by decide +kernel)
  refine ev_alu f_L_law (nx := 1618) rfl rfl rfl rfl ?_
  refine ev_jmp f_L_law (nx := 1621) rfl rfl rfl ?_
  exact kk _ _ _ _ ⟨⟨⟨⟨⟨hI2, hH, hJ2, by omega, by omega⟩, hR2, h72⟩, hT2⟩, hD2⟩, hN2⟩
