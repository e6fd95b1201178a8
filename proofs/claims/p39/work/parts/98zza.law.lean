/-! ===== printed by law.py: the law's cases ===== -/
theorem ev_lwc {X : x_Ext} {d mi pc nx a b q len ml : Nat} {z : Int} {ins : Instr} {lo : x_Lo} {st r : List Value} {G : x_G} {P PC : Option Value → x_G → Prop} {T : List (Nat × x_Row)} {rt : Option FieldType} {as : List Value} (F : x_F mi T ml rt) (hr : x_lk T pc = some (ins, len, a, b, q, z)) (hc : x_cat ins = 4) (ha : Nat.blt a 1000 = true) (hb : Nat.ble b st.length = true) (has : (st.take b).reverse = as) (hrest : st.drop b = r) (h8 : Nat.ble (x_words r) 8 = true) (hM : x_Me X d a as G PC) (hn : pc + 3 = nx) (kk : ∀ v G1, PC v G1 → x_Ev X (d + 1) mi nx lo (v.toList ++ r) G1 P) : x_Ev X (d + 1) mi pc lo st G P := by
  subst has; subst hrest
  exact ev_call F hr hc (decide_eq_true (Nat.le_of_ble_eq_true ha)) (Nat.le_of_ble_eq_true hb) (Nat.le_of_ble_eq_true h8) hM hn kk
/-- a number of the script -/
theorem ev_scx {X : x_Ext} {d mi pc nx a b q len ml : Nat} {z : Int} {lo : x_Lo} {r : List Value} {G : x_G} {P : Option Value → x_G → Prop} {T : List (Nat × x_Row)} {rt : Option FieldType} {i w : Int32} (F : x_F mi T ml rt) (hr : x_lk T pc = some (.iaload, len, a, b, q, z)) (h0 : 0 ≤ i.toInt) (h1 : i.toInt < (X.1 : Int)) (hw : X.2 i.toNatClampNeg = w) (hn : pc + len = nx) (kk : x_Ev X d mi nx lo (.int w :: r) G P) : x_Ev X d mi pc lo (.int i :: .retAddr 30 :: r) G P := by
  refine ev_heap F hr rfl ?_ hn kk
  show (match x_ldX (fun t => t == .int) X 30 i with | some v => some (v :: r, G) | none => none) = _
  have hc := t_clamp h0
  have h3 : x_ldX (fun t => t == .int) X 30 i = some (.int w) := by
    show (if (FieldType.int == .int) = true ∧ ¬ (i < 0 ∨ X.1 ≤ i.toNatClampNeg) then some (Value.int (X.2 i.toNatClampNeg)) else none) = _
    rw [if_pos ⟨rfl, by rw [Int32.lt_iff_toInt_lt]; have : (0 : Int32).toInt = 0 := rfl; omega⟩, hw]
  rw [h3]
theorem ev_pop2 {X : x_Ext} {d mi pc nx a b q len ml : Nat} {z : Int} {lo : x_Lo} {r : List Value} {G : x_G} {P : Option Value → x_G → Prop} {T : List (Nat × x_Row)} {rt : Option FieldType} {x : Int64} (F : x_F mi T ml rt) (hr : x_lk T pc = some (.pop2, len, a, b, q, z)) (hn : pc + len = nx) (kk : x_Ev X d mi nx lo r G P) : x_Ev X d mi pc lo (.long x :: r) G P := ev_alu F hr rfl rfl hn kk
theorem t_ik {i : Int32} {k : Int32} {n : Int} (hk : k.toInt = n) (h0 : 0 ≤ i.toInt) (h1 : i.toInt ≤ 3072) (hn : decide (0 ≤ n ∧ n ≤ 10) = true) : (i + k).toInt = i.toInt + n := by
  have hn := of_decide_eq_true hn
  rw [Int32.toInt_add, hk, Int.bmod_eq_of_le] <;> omega
theorem t_len6 {L : Nat} (h : L ≤ 3072) : (Int32.ofNat L - 6).toInt = (L : Int) - 6 := by
  have h1 : (Int32.ofNat L).toInt = (L : Int) := Int32.toInt_ofNat_of_lt (by omega)
  have h2 : (6 : Int32).toInt = 6 := rfl
  rw [Int32.toInt_sub, h1, h2, Int.bmod_eq_of_le] <;> omega
noncomputable def x_PL (v : Option Value) (G : x_G) : Prop := v = some (.int 1) ∧ x_okG G
set_option maxRecDepth 20000 in
theorem lc_0 {X : x_Ext} {c : Nat} {i : Int32} {sh : List (Nat ⊕ (Nat × Nat))} {gi : Nat → Nat → Int32} {gl : Nat → Nat → Int64} {gr : Nat → Nat → Value} {P : Option Value → x_G → Prop} (hL : X.1 ≤ 3072) (h0 : 0 ≤ i.toInt) (h1 : i.toInt + 6 ≤ (X.1 : Int)) (hW : t_LE c sh gi gl gr) (kk : ∀ sh2 gi2 gl2 gr2, t_LE (c + 1) sh2 gi2 gl2 gr2 → x_Ev X 1000 n_L_law 1621 [(3, .int i), (2, .ref 69), (1, .ref 0), (0, .retAddr 30)] [] (sh2, gi2, gl2, gr2) P) : x_Ev X 1000 n_L_law 244 [(3, .int i), (2, .ref 69), (1, .ref 0), (0, .retAddr 30)] [] (sh, gi, gl, gr) P := by
  obtain ⟨⟨⟨⟨⟨hI, hH, hJ, hz1, hz2⟩, hR, h7⟩, hT⟩, hD⟩, hN⟩ := hW
  have hi6 : i.toInt ≤ 3066 := by omega
  have hm12 := hI.b (hI.wf.s (k := 0) rfl) (t_bdK rfl : t_bd 10 12 = some (0, 3))
  refine ev_loc f_L_law (nx := 245) rfl rfl rfl rfl ?_
  refine ev_lwc f_L_law (nx := 248) rfl rfl rfl rfl rfl rfl rfl (x_Me.up (c_h_status (d := 0) hI) (by omega)) rfl ?_
  rintro _ _ ⟨g1, l1, r1, rfl, hI1, hX1, x1, rfl, -, -⟩
  have hJ1 := t_J_ext hJ (hX1.1 69 75 rfl).1 (fun j => (hX1.1 70 j rfl).1)
  have f1 := t_F_X hX1
  refine ev_alu f_L_law (nx := 249) rfl rfl rfl rfl ?_
  refine ev_loc f_L_law (nx := 250) rfl rfl rfl rfl ?_
  have hm0 : ((0 : Nat) : Int) ≤ (g1 69 75).toInt := (hI1.b (hI1.wf.s (k := 69) rfl) (t_bdK rfl : t_bd 11 75 = some (0, 3))).1
  have hm3 := (hI1.b (hI1.wf.s (k := 69) rfl) (t_bdK rfl : t_bd 11 75 = some (0, 3))).2
  refine ev_lwc f_L_law (nx := 253) rfl rfl rfl rfl rfl rfl rfl (x_Me.up (c_m_status (d := 0) hI1) (by omega)) rfl ?_
  rintro _ _ ⟨g2, l2, r2, rfl, hI2, hX2, x2, rfl, -, -⟩
  have hJ2 := t_J_ext hJ1 (hX2.1 69 75 rfl).1 (fun j => (hX2.1 70 j rfl).1)
  have f2 := t_F_X hX2
  have hR2 : t_R g2 r2 := t_L_gen hR f1 f2 (by decide +kernel) (by decide +kernel)
  have h72 := t_L_g7 h7 f1 f2 (by decide +kernel)
  have hT2 : t_TP g2 := t_TP_same hT f1 f2 (by decide +kernel) rfl rfl
  have hD2 := t_DR_same hD hX1 hX2 (by decide +kernel) (fun j hj => (hX2.1 70 j (t_nG (lo := 0) (hi := 1400) rfl (Nat.zero_le _) hj)).1) hm12.2
  have hN1 : (g1 69 46).toInt = -1 := t_N46a hN f1 (by decide +kernel)
  have hN2 : (g2 69 46).toInt = -1 := t_N46 hN f1 f2 (by decide +kernel)
  refine ev_alu f_L_law (nx := 254) rfl rfl rfl rfl ?_
  refine ev_jmp f_L_law (nx := 1621) rfl rfl rfl ?_
  exact kk _ _ _ _ ⟨⟨⟨⟨⟨hI2, hH, hJ2, by omega, by omega⟩, hR2, h72⟩, hT2⟩, hD2⟩, hN2⟩
set_option maxRecDepth 20000 in
theorem lc_1 {X : x_Ext} {c : Nat} {i : Int32} {sh : List (Nat ⊕ (Nat × Nat))} {gi : Nat → Nat → Int32} {gl : Nat → Nat → Int64} {gr : Nat → Nat → Value} {P : Option Value → x_G → Prop} (hL : X.1 ≤ 3072) (h0 : 0 ≤ i.toInt) (h1 : i.toInt + 6 ≤ (X.1 : Int)) (hW : t_LE c sh gi gl gr) (kk : ∀ sh2 gi2 gl2 gr2, t_LE (c + 1) sh2 gi2 gl2 gr2 → x_Ev X 1000 n_L_law 1621 [(3, .int i), (2, .ref 69), (1, .ref 0), (0, .retAddr 30)] [] (sh2, gi2, gl2, gr2) P) : x_Ev X 1000 n_L_law 257 [(3, .int i), (2, .ref 69), (1, .ref 0), (0, .retAddr 30)] [] (sh, gi, gl, gr) P := by
  obtain ⟨⟨⟨⟨⟨hI, hH, hJ, hz1, hz2⟩, hR, h7⟩, hT⟩, hD⟩, hN⟩ := hW
  have hi6 : i.toInt ≤ 3066 := by omega
  have hm12 := hI.b (hI.wf.s (k := 0) rfl) (t_bdK rfl : t_bd 10 12 = some (0, 3))
  refine ev_loc f_L_law (nx := 258) rfl rfl rfl rfl ?_
  refine ev_lwc f_L_law (nx := 261) rfl rfl rfl rfl rfl rfl rfl (x_Me.up (c_h_top (d := 0) hI) (by omega)) rfl ?_
  rintro _ _ ⟨g1, l1, r1, rfl, hI1, hX1, x1, rfl⟩
  have hJ1 := t_J_ext hJ (hX1.1 69 75 rfl).1 (fun j => (hX1.1 70 j rfl).1)
  have f1 := t_F_X hX1
  refine ev_pop2 f_L_law (nx := 262) rfl rfl ?_
  refine ev_loc f_L_law (nx := 263) rfl rfl rfl rfl ?_
  have hm0 : ((0 : Nat) : Int) ≤ (g1 69 75).toInt := (hI1.b (hI1.wf.s (k := 69) rfl) (t_bdK rfl : t_bd 11 75 = some (0, 3))).1
  have hm3 := (hI1.b (hI1.wf.s (k := 69) rfl) (t_bdK rfl : t_bd 11 75 = some (0, 3))).2
  refine ev_lwc f_L_law (nx := 266) rfl rfl rfl rfl rfl rfl rfl (x_Me.up (c_m_top (d := 0) hI1) (by omega)) rfl ?_
  rintro _ _ ⟨g2, l2, r2, rfl, hI2, hX2, x2, rfl⟩
  have hJ2 := t_J_ext hJ1 (hX2.1 69 75 rfl).1 (fun j => (hX2.1 70 j rfl).1)
  have f2 := t_F_X hX2
  have hR2 : t_R g2 r2 := t_L_gen hR f1 f2 (by decide +kernel) (by decide +kernel)
  have h72 := t_L_g7 h7 f1 f2 (by decide +kernel)
  have hT2 : t_TP g2 := t_TP_same hT f1 f2 (by decide +kernel) rfl rfl
  have hD2 := t_DR_same hD hX1 hX2 (by decide +kernel) (fun j hj => (hX2.1 70 j (t_nG (lo := 0) (hi := 1400) rfl (Nat.zero_le _) hj)).1) hm12.2
  have hN1 : (g1 69 46).toInt = -1 := t_N46a hN f1 (by decide +kernel)
  have hN2 : (g2 69 46).toInt = -1 := t_N46 hN f1 f2 (by decide +kernel)
  refine ev_pop2 f_L_law (nx := 267) rfl rfl ?_
  refine ev_jmp f_L_law (nx := 1621) rfl rfl rfl ?_
  exact kk _ _ _ _ ⟨⟨⟨⟨⟨hI2, hH, hJ2, by omega, by omega⟩, hR2, h72⟩, hT2⟩, hD2⟩, hN2⟩
set_option maxRecDepth 20000 in
theorem lc_2 {X : x_Ext} {c : Nat} {i : Int32} {sh : List (Nat ⊕ (Nat × Nat))} {gi : Nat → Nat → Int32} {gl : Nat → Nat → Int64} {gr : Nat → Nat → Value} {P : Option Value → x_G → Prop} (hL : X.1 ≤ 3072) (h0 : 0 ≤ i.toInt) (h1 : i.toInt + 6 ≤ (X.1 : Int)) (hW : t_LE c sh gi gl gr) (kk : ∀ sh2 gi2 gl2 gr2, t_LE (c + 1) sh2 gi2 gl2 gr2 → x_Ev X 1000 n_L_law 1621 [(3, .int i), (2, .ref 69), (1, .ref 0), (0, .retAddr 30)] [] (sh2, gi2, gl2, gr2) P) : x_Ev X 1000 n_L_law 270 [(3, .int i), (2, .ref 69), (1, .ref 0), (0, .retAddr 30)] [] (sh, gi, gl, gr) P := by
  obtain ⟨⟨⟨⟨⟨hI, hH, hJ, hz1, hz2⟩, hR, h7⟩, hT⟩, hD⟩, hN⟩ := hW
  have hi6 : i.toInt ≤ 3066 := by omega
  have hm12 := hI.b (hI.wf.s (k := 0) rfl) (t_bdK rfl : t_bd 10 12 = some (0, 3))
  refine ev_loc f_L_law (nx := 271) rfl rfl rfl rfl ?_
  refine ev_lwc f_L_law (nx := 274) rfl rfl rfl rfl rfl rfl rfl (x_Me.up (c_h_bottom (d := 0) hI) (by omega)) rfl ?_
  rintro _ _ ⟨g1, l1, r1, rfl, hI1, hX1, x1, rfl⟩
  have hJ1 := t_J_ext hJ (hX1.1 69 75 rfl).1 (fun j => (hX1.1 70 j rfl).1)
  have f1 := t_F_X hX1
  refine ev_pop2 f_L_law (nx := 275) rfl rfl ?_
  refine ev_loc f_L_law (nx := 276) rfl rfl rfl rfl ?_
  have hm0 : ((0 : Nat) : Int) ≤ (g1 69 75).toInt := (hI1.b (hI1.wf.s (k := 69) rfl) (t_bdK rfl : t_bd 11 75 = some (0, 3))).1
  have hm3 := (hI1.b (hI1.wf.s (k := 69) rfl) (t_bdK rfl : t_bd 11 75 = some (0, 3))).2
  refine ev_lwc f_L_law (nx := 279) rfl rfl rfl rfl rfl rfl rfl (x_Me.up (c_m_bottom (d := 0) hI1) (by omega)) rfl ?_
  rintro _ _ ⟨g2, l2, r2, rfl, hI2, hX2, x2, rfl⟩
  have hJ2 := t_J_ext hJ1 (hX2.1 69 75 rfl).1 (fun j => (hX2.1 70 j rfl).1)
  have f2 := t_F_X hX2
  have hR2 : t_R g2 r2 := t_L_gen hR f1 f2 (by decide +kernel) (by decide +kernel)
  have h72 := t_L_g7 h7 f1 f2 (by decide +kernel)
  have hT2 : t_TP g2 := t_TP_same hT f1 f2 (by decide +kernel) rfl rfl
  have hD2 := t_DR_same hD hX1 hX2 (by decide +kernel) (fun j hj => (hX2.1 70 j (t_nG (lo := 0) (hi := 1400) rfl (Nat.zero_le _) hj)).1) hm12.2
  have hN1 : (g1 69 46).toInt = -1 := t_N46a hN f1 (by decide +kernel)
  have hN2 : (g2 69 46).toInt = -1 := t_N46 hN f1 f2 (by decide +kernel)
  refine ev_pop2 f_L_law (nx := 280) rfl rfl ?_
  refine ev_jmp f_L_law (nx := 1621) rfl rfl rfl ?_
  exact kk _ _ _ _ ⟨⟨⟨⟨⟨hI2, hH, hJ2, by omega, by omega⟩, hR2, h72⟩, hT2⟩, hD2⟩, hN2⟩
set_option maxRecDepth 20000 in
theorem lc_3 {X : x_Ext} {c : Nat} {i : Int32} {sh : List (Nat ⊕ (Nat × Nat))} {gi : Nat → Nat → Int32} {gl : Nat → Nat → Int64} {gr : Nat → Nat → Value} {P : Option Value → x_G → Prop} (hL : X.1 ≤ 3072) (h0 : 0 ≤ i.toInt) (h1 : i.toInt + 6 ≤ (X.1 : Int)) (hW : t_LE c sh gi gl gr) (kk : ∀ sh2 gi2 gl2 gr2, t_LE (c + 1) sh2 gi2 gl2 gr2 → x_Ev X 1000 n_L_law 1621 [(3, .int i), (2, .ref 69), (1, .ref 0), (0, .retAddr 30)] [] (sh2, gi2, gl2, gr2) P) : x_Ev X 1000 n_L_law 283 [(3, .int i), (2, .ref 69), (1, .ref 0), (0, .retAddr 30)] [] (sh, gi, gl, gr) P := by
  obtain ⟨⟨⟨⟨⟨hI, hH, hJ, hz1, hz2⟩, hR, h7⟩, hT⟩, hD⟩, hN⟩ := hW
  have hk1 : (i + 1).toInt = i.toInt + 1 := t_ik rfl h0 (by omega) (by decide)
  obtain ⟨A1, hA1⟩ : ∃ v, X.2 (i + 1).toNatClampNeg = v := ⟨_, rfl⟩
  have hk2 : (i + 2).toInt = i.toInt + 2 := t_ik rfl h0 (by omega) (by decide)
  obtain ⟨A2, hA2⟩ : ∃ v, X.2 (i + 2).toNatClampNeg = v := ⟨_, rfl⟩
  have hk3 : (i + 3).toInt = i.toInt + 3 := t_ik rfl h0 (by omega) (by decide)
  obtain ⟨A3, hA3⟩ : ∃ v, X.2 (i + 3).toNatClampNeg = v := ⟨_, rfl⟩
  have hi6 : i.toInt ≤ 3066 := by omega
  have hm12 := hI.b (hI.wf.s (k := 0) rfl) (t_bdK rfl : t_bd 10 12 = some (0, 3))
  refine ev_loc f_L_law (nx := 284) rfl rfl rfl rfl ?_
  refine ev_loc f_L_law (nx := 285) rfl rfl rfl rfl ?_
  refine ev_loc f_L_law (nx := 286) rfl rfl rfl rfl ?_
  refine ev_ic f_L_law (nx := 287) (v := 1) rfl (by decide) rfl ?_
  refine ev_alu f_L_law (nx := 288) rfl rfl rfl rfl ?_
  refine ev_scx f_L_law (nx := 289) (w := A1) rfl (by rw [hk1]; omega) (by rw [hk1]; omega) hA1 rfl ?_
  refine ev_loc f_L_law (nx := 290) rfl rfl rfl rfl ?_
  refine ev_loc f_L_law (nx := 291) rfl rfl rfl rfl ?_
  refine ev_ic f_L_law (nx := 292) (v := 2) rfl (by decide) rfl ?_
  refine ev_alu f_L_law (nx := 293) rfl rfl rfl rfl ?_
  refine ev_scx f_L_law (nx := 294) (w := A2) rfl (by rw [hk2]; omega) (by rw [hk2]; omega) hA2 rfl ?_
  refine ev_loc f_L_law (nx := 295) rfl rfl rfl rfl ?_
  refine ev_loc f_L_law (nx := 296) rfl rfl rfl rfl ?_
  refine ev_ic f_L_law (nx := 297) (v := 3) rfl (by decide) rfl ?_
  refine ev_alu f_L_law (nx := 298) rfl rfl rfl rfl ?_
  refine ev_scx f_L_law (nx := 299) (w := A3) rfl (by rw [hk3]; omega) (by rw [hk3]; omega) hA3 rfl ?_
  refine ev_lwc f_L_law (nx := 302) rfl rfl rfl rfl rfl rfl rfl (x_Me.up (c_h_trayU (d := 0) hI (A1) (A2) (A3)) (by omega)) rfl ?_
  rintro _ _ ⟨g1, l1, r1, rfl, hI1, hX1, x1, rfl, bb1, cc1, q1⟩
  have hJ1 := t_J_ext hJ (hX1.1 69 75 rfl).1 (fun j => (hX1.1 70 j rfl).1)
  have f1 := t_F_X hX1
  refine ev_alu f_L_law (nx := 303) rfl rfl rfl rfl ?_
  refine ev_loc f_L_law (nx := 304) rfl rfl rfl rfl ?_
  refine ev_loc f_L_law (nx := 305) rfl rfl rfl rfl ?_
  refine ev_loc f_L_law (nx := 306) rfl rfl rfl rfl ?_
  refine ev_ic f_L_law (nx := 307) (v := 1) rfl (by decide) rfl ?_
  refine ev_alu f_L_law (nx := 308) rfl rfl rfl rfl ?_
  refine ev_scx f_L_law (nx := 309) (w := A1) rfl (by rw [hk1]; omega) (by rw [hk1]; omega) hA1 rfl ?_
  refine ev_loc f_L_law (nx := 310) rfl rfl rfl rfl ?_
  refine ev_loc f_L_law (nx := 311) rfl rfl rfl rfl ?_
  refine ev_ic f_L_law (nx := 312) (v := 2) rfl (by decide) rfl ?_
  refine ev_alu f_L_law (nx := 313) rfl rfl rfl rfl ?_
  refine ev_scx f_L_law (nx := 314) (w := A2) rfl (by rw [hk2]; omega) (by rw [hk2]; omega) hA2 rfl ?_
  refine ev_loc f_L_law (nx := 315) rfl rfl rfl rfl ?_
  refine ev_loc f_L_law (nx := 316) rfl rfl rfl rfl ?_
  refine ev_ic f_L_law (nx := 317) (v := 3) rfl (by decide) rfl ?_
  refine ev_alu f_L_law (nx := 318) rfl rfl rfl rfl ?_
  refine ev_scx f_L_law (nx := 319) (w := A3) rfl (by rw [hk3]; omega) (by rw [hk3]; omega) hA3 rfl ?_
  have hm0 : ((0 : Nat) : Int) ≤ (g1 69 75).toInt := (hI1.b (hI1.wf.s (k := 69) rfl) (t_bdK rfl : t_bd 11 75 = some (0, 3))).1
  have hm3 := (hI1.b (hI1.wf.s (k := 69) rfl) (t_bdK rfl : t_bd 11 75 = some (0, 3))).2
  refine ev_lwc f_L_law (nx := 322) rfl rfl rfl rfl rfl rfl rfl (x_Me.up (c_m_trayU (d := 0) hI1 (A1) (A2) (A3)) (by omega)) rfl ?_
  rintro _ _ ⟨g2, l2, r2, rfl, hI2, hX2, x2, rfl, bb2, cc2, q2⟩
  have hJ2 := t_J_ext hJ1 (hX2.1 69 75 rfl).1 (fun j => (hX2.1 70 j rfl).1)
  have f2 := t_F_X hX2
  obtain ⟨hA, hR2, h72⟩ := t_L_tray hR h7 hI f1 f2 q1 q2
  have hT2 : t_TP g2 := t_TP_same hT f1 f2 (by decide +kernel) rfl rfl
  have hD2 := t_DR_same hD hX1 hX2 (by decide +kernel) (fun j hj => (hX2.1 70 j (t_nG (lo := 0) (hi := 1400) rfl (Nat.zero_le _) hj)).1) hm12.2
  have hN1 : (g1 69 46).toInt = -1 := t_N46a hN f1 (by decide +kernel)
  have hN2 : (g2 69 46).toInt = -1 := t_N46 hN f1 f2 (by decide +kernel)
  refine ev_alu f_L_law (nx := 323) rfl rfl rfl rfl ?_
  refine ev_jmp f_L_law (nx := 1621) rfl rfl rfl ?_
  exact kk _ _ _ _ ⟨⟨⟨⟨⟨hI2, hH, hJ2, by omega, by omega⟩, hR2, h72⟩, hT2⟩, hD2⟩, hN2⟩
set_option maxRecDepth 20000 in
theorem lc_4 {X : x_Ext} {c : Nat} {i : Int32} {sh : List (Nat ⊕ (Nat × Nat))} {gi : Nat → Nat → Int32} {gl : Nat → Nat → Int64} {gr : Nat → Nat → Value} {P : Option Value → x_G → Prop} (hL : X.1 ≤ 3072) (h0 : 0 ≤ i.toInt) (h1 : i.toInt + 6 ≤ (X.1 : Int)) (hW : t_LE c sh gi gl gr) (kk : ∀ sh2 gi2 gl2 gr2, t_LE (c + 1) sh2 gi2 gl2 gr2 → x_Ev X 1000 n_L_law 1621 [(3, .int i), (2, .ref 69), (1, .ref 0), (0, .retAddr 30)] [] (sh2, gi2, gl2, gr2) P) : x_Ev X 1000 n_L_law 326 [(3, .int i), (2, .ref 69), (1, .ref 0), (0, .retAddr 30)] [] (sh, gi, gl, gr) P := by
  obtain ⟨⟨⟨⟨⟨hI, hH, hJ, hz1, hz2⟩, hR, h7⟩, hT⟩, hD⟩, hN⟩ := hW
  have hk1 : (i + 1).toInt = i.toInt + 1 := t_ik rfl h0 (by omega) (by decide)
  obtain ⟨A1, hA1⟩ : ∃ v, X.2 (i + 1).toNatClampNeg = v := ⟨_, rfl⟩
  have hk2 : (i + 2).toInt = i.toInt + 2 := t_ik rfl h0 (by omega) (by decide)
  obtain ⟨A2, hA2⟩ : ∃ v, X.2 (i + 2).toNatClampNeg = v := ⟨_, rfl⟩
  have hk3 : (i + 3).toInt = i.toInt + 3 := t_ik rfl h0 (by omega) (by decide)
  obtain ⟨A3, hA3⟩ : ∃ v, X.2 (i + 3).toNatClampNeg = v := ⟨_, rfl⟩
  have hk4 : (i + 4).toInt = i.toInt + 4 := t_ik rfl h0 (by omega) (by decide)
  obtain ⟨A4, hA4⟩ : ∃ v, X.2 (i + 4).toNatClampNeg = v := ⟨_, rfl⟩
  have hi6 : i.toInt ≤ 3066 := by omega
  have hm12 := hI.b (hI.wf.s (k := 0) rfl) (t_bdK rfl : t_bd 10 12 = some (0, 3))
  refine ev_loc f_L_law (nx := 327) rfl rfl rfl rfl ?_
  refine ev_loc f_L_law (nx := 328) rfl rfl rfl rfl ?_
  refine ev_loc f_L_law (nx := 329) rfl rfl rfl rfl ?_
  refine ev_ic f_L_law (nx := 330) (v := 1) rfl (by decide) rfl ?_
  refine ev_alu f_L_law (nx := 331) rfl rfl rfl rfl ?_
  refine ev_scx f_L_law (nx := 332) (w := A1) rfl (by rw [hk1]; omega) (by rw [hk1]; omega) hA1 rfl ?_
  refine ev_loc f_L_law (nx := 333) rfl rfl rfl rfl ?_
  refine ev_loc f_L_law (nx := 334) rfl rfl rfl rfl ?_
  refine ev_ic f_L_law (nx := 335) (v := 2) rfl (by decide) rfl ?_
  refine ev_alu f_L_law (nx := 336) rfl rfl rfl rfl ?_
  refine ev_scx f_L_law (nx := 337) (w := A2) rfl (by rw [hk2]; omega) (by rw [hk2]; omega) hA2 rfl ?_
  refine ev_loc f_L_law (nx := 338) rfl rfl rfl rfl ?_
  refine ev_loc f_L_law (nx := 339) rfl rfl rfl rfl ?_
  refine ev_ic f_L_law (nx := 340) (v := 3) rfl (by decide) rfl ?_
  refine ev_alu f_L_law (nx := 341) rfl rfl rfl rfl ?_
  refine ev_scx f_L_law (nx := 342) (w := A3) rfl (by rw [hk3]; omega) (by rw [hk3]; omega) hA3 rfl ?_
  refine ev_alu f_L_law (nx := 343) rfl rfl rfl rfl ?_
  refine ev_bp f_L_law (nx := 345) (v := 32) rfl (by decide) rfl ?_
  refine ev_alu f_L_law (nx := 346) rfl rfl rfl rfl ?_
  refine ev_loc f_L_law (nx := 347) rfl rfl rfl rfl ?_
  refine ev_loc f_L_law (nx := 348) rfl rfl rfl rfl ?_
  refine ev_ic f_L_law (nx := 349) (v := 4) rfl (by decide) rfl ?_
  refine ev_alu f_L_law (nx := 350) rfl rfl rfl rfl ?_
  refine ev_scx f_L_law (nx := 351) (w := A4) rfl (by rw [hk4]; omega) (by rw [hk4]; omega) hA4 rfl ?_
  refine ev_alu f_L_law (nx := 352) rfl rfl rfl rfl ?_
  refine ev_ldL f_L_law (nx := 355) (v := 4294967295) rfl (by decide) rfl ?_
  refine ev_alu f_L_law (nx := 356) rfl rfl rfl rfl ?_
  refine ev_alu f_L_law (nx := 357) rfl rfl rfl rfl ?_
  refine ev_lwc f_L_law (nx := 360) rfl rfl rfl rfl rfl rfl rfl (x_Me.up (c_h_writeU (d := 0) hI (A1) (A2) _) (by omega)) rfl ?_
  rintro _ _ ⟨g1, l1, r1, rfl, hI1, hX1, x1, rfl, bb1, cc1, q1⟩
  have hJ1 := t_J_ext hJ (hX1.1 69 75 rfl).1 (fun j => (hX1.1 70 j rfl).1)
  have f1 := t_F_X hX1
  refine ev_alu f_L_law (nx := 361) rfl rfl rfl rfl ?_
  refine ev_loc f_L_law (nx := 362) rfl rfl rfl rfl ?_
  refine ev_loc f_L_law (nx := 363) rfl rfl rfl rfl ?_
  refine ev_loc f_L_law (nx := 364) rfl rfl rfl rfl ?_
  refine ev_ic f_L_law (nx := 365) (v := 1) rfl (by decide) rfl ?_
  refine ev_alu f_L_law (nx := 366) rfl rfl rfl rfl ?_
  refine ev_scx f_L_law (nx := 367) (w := A1) rfl (by rw [hk1]; omega) (by rw [hk1]; omega) hA1 rfl ?_
  refine ev_loc f_L_law (nx := 368) rfl rfl rfl rfl ?_
  refine ev_loc f_L_law (nx := 369) rfl rfl rfl rfl ?_
  refine ev_ic f_L_law (nx := 370) (v := 2) rfl (by decide) rfl ?_
  refine ev_alu f_L_law (nx := 371) rfl rfl rfl rfl ?_
  refine ev_scx f_L_law (nx := 372) (w := A2) rfl (by rw [hk2]; omega) (by rw [hk2]; omega) hA2 rfl ?_
  refine ev_loc f_L_law (nx := 373) rfl rfl rfl rfl ?_
  refine ev_loc f_L_law (nx := 374) rfl rfl rfl rfl ?_
  refine ev_ic f_L_law (nx := 375) (v := 3) rfl (by decide) rfl ?_
  refine ev_alu f_L_law (nx := 376) rfl rfl rfl rfl ?_
  refine ev_scx f_L_law (nx := 377) (w := A3) rfl (by rw [hk3]; omega) (by rw [hk3]; omega) hA3 rfl ?_
  refine ev_alu f_L_law (nx := 378) rfl rfl rfl rfl ?_
  refine ev_bp f_L_law (nx := 380) (v := 32) rfl (by decide) rfl ?_
  refine ev_alu f_L_law (nx := 381) rfl rfl rfl rfl ?_
  refine ev_loc f_L_law (nx := 382) rfl rfl rfl rfl ?_
  refine ev_loc f_L_law (nx := 383) rfl rfl rfl rfl ?_
  refine ev_ic f_L_law (nx := 384) (v := 4) rfl (by decide) rfl ?_
  refine ev_alu f_L_law (nx := 385) rfl rfl rfl rfl ?_
  refine ev_scx f_L_law (nx := 386) (w := A4) rfl (by rw [hk4]; omega) (by rw [hk4]; omega) hA4 rfl ?_
  refine ev_alu f_L_law (nx := 387) rfl rfl rfl rfl ?_
  refine ev_ldL f_L_law (nx := 390) (v := 4294967295) rfl (by decide) rfl ?_
  refine ev_alu f_L_law (nx := 391) rfl rfl rfl rfl ?_
  refine ev_alu f_L_law (nx := 392) rfl rfl rfl rfl ?_
  have hm0 : ((0 : Nat) : Int) ≤ (g1 69 75).toInt := (hI1.b (hI1.wf.s (k := 69) rfl) (t_bdK rfl : t_bd 11 75 = some (0, 3))).1
  have hm3 := (hI1.b (hI1.wf.s (k := 69) rfl) (t_bdK rfl : t_bd 11 75 = some (0, 3))).2
  refine ev_lwc f_L_law (nx := 395) rfl rfl rfl rfl rfl rfl rfl (x_Me.up (c_m_writeU (d := 0) hI1 (A1) (A2) _) (by omega)) rfl ?_
  rintro _ _ ⟨g2, l2, r2, rfl, hI2, hX2, x2, rfl, bb2, cc2, q2⟩
  have hJ2 := t_J_ext hJ1 (hX2.1 69 75 rfl).1 (fun j => (hX2.1 70 j rfl).1)
  have f2 := t_F_X hX2
  obtain ⟨hA, hR2, h72⟩ := t_L_write hR h7 hI f1 f2 bb1 cc1 bb2 cc2 q1 q2
  have hT2 : t_TP g2 := t_TP_same hT f1 f2 (by decide +kernel) rfl rfl
  have hD2 := t_DR_same hD hX1 hX2 (by decide +kernel) (fun j hj => (hX2.1 70 j (t_nG (lo := 0) (hi := 1400) rfl (Nat.zero_le _) hj)).1) hm12.2
  have hN1 : (g1 69 46).toInt = -1 := t_N46a hN f1 (by decide +kernel)
  have hN2 : (g2 69 46).toInt = -1 := t_N46 hN f1 f2 (by decide +kernel)
  refine ev_alu f_L_law (nx := 396) rfl rfl rfl rfl ?_
  refine ev_jmp f_L_law (nx := 1621) rfl rfl rfl ?_
  exact kk _ _ _ _ ⟨⟨⟨⟨⟨hI2, hH, hJ2, by omega, by omega⟩, hR2, h72⟩, hT2⟩, hD2⟩, hN2⟩
set_option maxRecDepth 20000 in
theorem lc_5 {X : x_Ext} {c : Nat} {i : Int32} {sh : List (Nat ⊕ (Nat × Nat))} {gi : Nat → Nat → Int32} {gl : Nat → Nat → Int64} {gr : Nat → Nat → Value} {P : Option Value → x_G → Prop} (hL : X.1 ≤ 3072) (h0 : 0 ≤ i.toInt) (h1 : i.toInt + 6 ≤ (X.1 : Int)) (hW : t_LE c sh gi gl gr) (kk : ∀ sh2 gi2 gl2 gr2, t_LE (c + 1) sh2 gi2 gl2 gr2 → x_Ev X 1000 n_L_law 1621 [(3, .int i), (2, .ref 69), (1, .ref 0), (0, .retAddr 30)] [] (sh2, gi2, gl2, gr2) P) : x_Ev X 1000 n_L_law 399 [(3, .int i), (2, .ref 69), (1, .ref 0), (0, .retAddr 30)] [] (sh, gi, gl, gr) P := by
  obtain ⟨⟨⟨⟨⟨hI, hH, hJ, hz1, hz2⟩, hR, h7⟩, hT⟩, hD⟩, hN⟩ := hW
  have hk1 : (i + 1).toInt = i.toInt + 1 := t_ik rfl h0 (by omega) (by decide)
  obtain ⟨A1, hA1⟩ : ∃ v, X.2 (i + 1).toNatClampNeg = v := ⟨_, rfl⟩
  have hk2 : (i + 2).toInt = i.toInt + 2 := t_ik rfl h0 (by omega) (by decide)
  obtain ⟨A2, hA2⟩ : ∃ v, X.2 (i + 2).toNatClampNeg = v := ⟨_, rfl⟩
  have hi6 : i.toInt ≤ 3066 := by omega
  have hm12 := hI.b (hI.wf.s (k := 0) rfl) (t_bdK rfl : t_bd 10 12 = some (0, 3))
  refine ev_loc f_L_law (nx := 400) rfl rfl rfl rfl ?_
  refine ev_loc f_L_law (nx := 401) rfl rfl rfl rfl ?_
  refine ev_loc f_L_law (nx := 402) rfl rfl rfl rfl ?_
  refine ev_ic f_L_law (nx := 403) (v := 1) rfl (by decide) rfl ?_
  refine ev_alu f_L_law (nx := 404) rfl rfl rfl rfl ?_
  refine ev_scx f_L_law (nx := 405) (w := A1) rfl (by rw [hk1]; omega) (by rw [hk1]; omega) hA1 rfl ?_
  refine ev_loc f_L_law (nx := 406) rfl rfl rfl rfl ?_
  refine ev_loc f_L_law (nx := 407) rfl rfl rfl rfl ?_
  refine ev_ic f_L_law (nx := 408) (v := 2) rfl (by decide) rfl ?_
  refine ev_alu f_L_law (nx := 409) rfl rfl rfl rfl ?_
  refine ev_scx f_L_law (nx := 410) (w := A2) rfl (by rw [hk2]; omega) (by rw [hk2]; omega) hA2 rfl ?_
  refine ev_lwc f_L_law (nx := 413) rfl rfl rfl rfl rfl rfl rfl (x_Me.up (c_h_readU (d := 0) hI (A1) (A2)) (by omega)) rfl ?_
  rintro _ _ ⟨g1, l1, r1, rfl, hI1, hX1, x1, rfl, q1⟩
  have hJ1 := t_J_ext hJ (hX1.1 69 75 rfl).1 (fun j => (hX1.1 70 j rfl).1)
  have f1 := t_F_X hX1
  refine ev_pop2 f_L_law (nx := 414) rfl rfl ?_
  refine ev_loc f_L_law (nx := 415) rfl rfl rfl rfl ?_
  refine ev_loc f_L_law (nx := 416) rfl rfl rfl rfl ?_
  refine ev_loc f_L_law (nx := 417) rfl rfl rfl rfl ?_
  refine ev_ic f_L_law (nx := 418) (v := 1) rfl (by decide) rfl ?_
  refine ev_alu f_L_law (nx := 419) rfl rfl rfl rfl ?_
  refine ev_scx f_L_law (nx := 420) (w := A1) rfl (by rw [hk1]; omega) (by rw [hk1]; omega) hA1 rfl ?_
  refine ev_loc f_L_law (nx := 421) rfl rfl rfl rfl ?_
  refine ev_loc f_L_law (nx := 422) rfl rfl rfl rfl ?_
  refine ev_ic f_L_law (nx := 423) (v := 2) rfl (by decide) rfl ?_
  refine ev_alu f_L_law (nx := 424) rfl rfl rfl rfl ?_
  refine ev_scx f_L_law (nx := 425) (w := A2) rfl (by rw [hk2]; omega) (by rw [hk2]; omega) hA2 rfl ?_
  have hm0 : ((0 : Nat) : Int) ≤ (g1 69 75).toInt := (hI1.b (hI1.wf.s (k := 69) rfl) (t_bdK rfl : t_bd 11 75 = some (0, 3))).1
  have hm3 := (hI1.b (hI1.wf.s (k := 69) rfl) (t_bdK rfl : t_bd 11 75 = some (0, 3))).2
  refine ev_lwc f_L_law (nx := 428) rfl rfl rfl rfl rfl rfl rfl (x_Me.up (c_m_readU (d := 0) hI1 (A1) (A2)) (by omega)) rfl ?_
  rintro _ _ ⟨g2, l2, r2, rfl, hI2, hX2, x2, rfl, q2⟩
  have hJ2 := t_J_ext hJ1 (hX2.1 69 75 rfl).1 (fun j => (hX2.1 70 j rfl).1)
  have f2 := t_F_X hX2
  obtain ⟨hA, hR2, h72⟩ := t_L_read hR h7 f1 f2 q1 q2
  have hT2 : t_TP g2 := t_TP_same hT f1 f2 (by decide +kernel) rfl rfl
  have hD2 := t_DR_same hD hX1 hX2 (by decide +kernel) (fun j hj => (hX2.1 70 j (t_nG (lo := 0) (hi := 1400) rfl (Nat.zero_le _) hj)).1) hm12.2
  have hN1 : (g1 69 46).toInt = -1 := t_N46a hN f1 (by decide +kernel)
  have hN2 : (g2 69 46).toInt = -1 := t_N46 hN f1 f2 (by decide +kernel)
  refine ev_pop2 f_L_law (nx := 429) rfl rfl ?_
  refine ev_jmp f_L_law (nx := 1621) rfl rfl rfl ?_
  exact kk _ _ _ _ ⟨⟨⟨⟨⟨hI2, hH, hJ2, by omega, by omega⟩, hR2, h72⟩, hT2⟩, hD2⟩, hN2⟩
set_option maxRecDepth 20000 in
theorem lc_6 {X : x_Ext} {c : Nat} {i : Int32} {sh : List (Nat ⊕ (Nat × Nat))} {gi : Nat → Nat → Int32} {gl : Nat → Nat → Int64} {gr : Nat → Nat → Value} {P : Option Value → x_G → Prop} (hL : X.1 ≤ 3072) (h0 : 0 ≤ i.toInt) (h1 : i.toInt + 6 ≤ (X.1 : Int)) (hW : t_LE c sh gi gl gr) (kk : ∀ sh2 gi2 gl2 gr2, t_LE (c + 1) sh2 gi2 gl2 gr2 → x_Ev X 1000 n_L_law 1621 [(3, .int i), (2, .ref 69), (1, .ref 0), (0, .retAddr 30)] [] (sh2, gi2, gl2, gr2) P) : x_Ev X 1000 n_L_law 432 [(3, .int i), (2, .ref 69), (1, .ref 0), (0, .retAddr 30)] [] (sh, gi, gl, gr) P := by
  obtain ⟨⟨⟨⟨⟨hI, hH, hJ, hz1, hz2⟩, hR, h7⟩, hT⟩, hD⟩, hN⟩ := hW
  have hk1 : (i + 1).toInt = i.toInt + 1 := t_ik rfl h0 (by omega) (by decide)
  obtain ⟨A1, hA1⟩ : ∃ v, X.2 (i + 1).toNatClampNeg = v := ⟨_, rfl⟩
  have hk2 : (i + 2).toInt = i.toInt + 2 := t_ik rfl h0 (by omega) (by decide)
  obtain ⟨A2, hA2⟩ : ∃ v, X.2 (i + 2).toNatClampNeg = v := ⟨_, rfl⟩
  have hk3 : (i + 3).toInt = i.toInt + 3 := t_ik rfl h0 (by omega) (by decide)
  obtain ⟨A3, hA3⟩ : ∃ v, X.2 (i + 3).toNatClampNeg = v := ⟨_, rfl⟩
  have hk4 : (i + 4).toInt = i.toInt + 4 := t_ik rfl h0 (by omega) (by decide)
  obtain ⟨A4, hA4⟩ : ∃ v, X.2 (i + 4).toNatClampNeg = v := ⟨_, rfl⟩
  have hk5 : (i + 5).toInt = i.toInt + 5 := t_ik rfl h0 (by omega) (by decide)
  obtain ⟨A5, hA5⟩ : ∃ v, X.2 (i + 5).toNatClampNeg = v := ⟨_, rfl⟩
  have hi6 : i.toInt ≤ 3066 := by omega
  have hm12 := hI.b (hI.wf.s (k := 0) rfl) (t_bdK rfl : t_bd 10 12 = some (0, 3))
  refine ev_loc f_L_law (nx := 433) rfl rfl rfl rfl ?_
  refine ev_loc f_L_law (nx := 434) rfl rfl rfl rfl ?_
  refine ev_loc f_L_law (nx := 435) rfl rfl rfl rfl ?_
  refine ev_ic f_L_law (nx := 436) (v := 1) rfl (by decide) rfl ?_
  refine ev_alu f_L_law (nx := 437) rfl rfl rfl rfl ?_
  refine ev_scx f_L_law (nx := 438) (w := A1) rfl (by rw [hk1]; omega) (by rw [hk1]; omega) hA1 rfl ?_
  refine ev_loc f_L_law (nx := 439) rfl rfl rfl rfl ?_
  refine ev_loc f_L_law (nx := 440) rfl rfl rfl rfl ?_
  refine ev_ic f_L_law (nx := 441) (v := 2) rfl (by decide) rfl ?_
  refine ev_alu f_L_law (nx := 442) rfl rfl rfl rfl ?_
  refine ev_scx f_L_law (nx := 443) (w := A2) rfl (by rw [hk2]; omega) (by rw [hk2]; omega) hA2 rfl ?_
  refine ev_loc f_L_law (nx := 444) rfl rfl rfl rfl ?_
  refine ev_loc f_L_law (nx := 445) rfl rfl rfl rfl ?_
  refine ev_ic f_L_law (nx := 446) (v := 3) rfl (by decide) rfl ?_
  refine ev_alu f_L_law (nx := 447) rfl rfl rfl rfl ?_
  refine ev_scx f_L_law (nx := 448) (w := A3) rfl (by rw [hk3]; omega) (by rw [hk3]; omega) hA3 rfl ?_
  refine ev_loc f_L_law (nx := 449) rfl rfl rfl rfl ?_
  refine ev_loc f_L_law (nx := 450) rfl rfl rfl rfl ?_
  refine ev_ic f_L_law (nx := 451) (v := 4) rfl (by decide) rfl ?_
  refine ev_alu f_L_law (nx := 452) rfl rfl rfl rfl ?_
  refine ev_scx f_L_law (nx := 453) (w := A4) rfl (by rw [hk4]; omega) (by rw [hk4]; omega) hA4 rfl ?_
  refine ev_loc f_L_law (nx := 454) rfl rfl rfl rfl ?_
  refine ev_loc f_L_law (nx := 455) rfl rfl rfl rfl ?_
  refine ev_ic f_L_law (nx := 456) (v := 5) rfl (by decide) rfl ?_
  refine ev_alu f_L_law (nx := 457) rfl rfl rfl rfl ?_
  refine ev_scx f_L_law (nx := 458) (w := A5) rfl (by rw [hk5]; omega) (by rw [hk5]; omega) hA5 rfl ?_
  refine ev_lwc f_L_law (nx := 461) rfl rfl rfl rfl rfl rfl rfl (x_Me.up (c_h_pourU (d := 0) hI (A1) (A2) (A3) (A4) (A5)) (by omega)) rfl ?_
  rintro _ _ ⟨g1, l1, r1, rfl, hI1, hX1, x1, rfl, bb1, cc1, q1⟩
  have hJ1 := t_J_ext hJ (hX1.1 69 75 rfl).1 (fun j => (hX1.1 70 j rfl).1)
  have f1 := t_F_X hX1
  refine ev_alu f_L_law (nx := 462) rfl rfl rfl rfl ?_
  refine ev_loc f_L_law (nx := 463) rfl rfl rfl rfl ?_
  refine ev_loc f_L_law (nx := 464) rfl rfl rfl rfl ?_
  refine ev_loc f_L_law (nx := 465) rfl rfl rfl rfl ?_
  refine ev_ic f_L_law (nx := 466) (v := 1) rfl (by decide) rfl ?_
  refine ev_alu f_L_law (nx := 467) rfl rfl rfl rfl ?_
  refine ev_scx f_L_law (nx := 468) (w := A1) rfl (by rw [hk1]; omega) (by rw [hk1]; omega) hA1 rfl ?_
  refine ev_loc f_L_law (nx := 469) rfl rfl rfl rfl ?_
  refine ev_loc f_L_law (nx := 470) rfl rfl rfl rfl ?_
  refine ev_ic f_L_law (nx := 471) (v := 2) rfl (by decide) rfl ?_
  refine ev_alu f_L_law (nx := 472) rfl rfl rfl rfl ?_
  refine ev_scx f_L_law (nx := 473) (w := A2) rfl (by rw [hk2]; omega) (by rw [hk2]; omega) hA2 rfl ?_
  refine ev_loc f_L_law (nx := 474) rfl rfl rfl rfl ?_
  refine ev_loc f_L_law (nx := 475) rfl rfl rfl rfl ?_
  refine ev_ic f_L_law (nx := 476) (v := 3) rfl (by decide) rfl ?_
  refine ev_alu f_L_law (nx := 477) rfl rfl rfl rfl ?_
  refine ev_scx f_L_law (nx := 478) (w := A3) rfl (by rw [hk3]; omega) (by rw [hk3]; omega) hA3 rfl ?_
  refine ev_loc f_L_law (nx := 479) rfl rfl rfl rfl ?_
  refine ev_loc f_L_law (nx := 480) rfl rfl rfl rfl ?_
  refine ev_ic f_L_law (nx := 481) (v := 4) rfl (by decide) rfl ?_
  refine ev_alu f_L_law (nx := 482) rfl rfl rfl rfl ?_
  refine ev_scx f_L_law (nx := 483) (w := A4) rfl (by rw [hk4]; omega) (by rw [hk4]; omega) hA4 rfl ?_
  refine ev_loc f_L_law (nx := 484) rfl rfl rfl rfl ?_
  refine ev_loc f_L_law (nx := 485) rfl rfl rfl rfl ?_
  refine ev_ic f_L_law (nx := 486) (v := 5) rfl (by decide) rfl ?_
  refine ev_alu f_L_law (nx := 487) rfl rfl rfl rfl ?_
  refine ev_scx f_L_law (nx := 488) (w := A5) rfl (by rw [hk5]; omega) (by rw [hk5]; omega) hA5 rfl ?_
  have hm0 : ((0 : Nat) : Int) ≤ (g1 69 75).toInt := (hI1.b (hI1.wf.s (k := 69) rfl) (t_bdK rfl : t_bd 11 75 = some (0, 3))).1
  have hm3 := (hI1.b (hI1.wf.s (k := 69) rfl) (t_bdK rfl : t_bd 11 75 = some (0, 3))).2
  refine ev_lwc f_L_law (nx := 491) rfl rfl rfl rfl rfl rfl rfl (x_Me.up (c_m_pourU (d := 0) hI1 (A1) (A2) (A3) (A4) (A5)) (by omega)) rfl ?_
  rintro _ _ ⟨g2, l2, r2, rfl, hI2, hX2, x2, rfl, bb2, cc2, q2⟩
  have hJ2 := t_J_ext hJ1 (hX2.1 69 75 rfl).1 (fun j => (hX2.1 70 j rfl).1)
  have f2 := t_F_X hX2
  obtain ⟨hA, hR2, h72⟩ := t_L_pour hR h7 hI f1 f2 bb1 cc1 bb2 cc2 q1 q2
  have hT2 : t_TP g2 := t_TP_same hT f1 f2 (by decide +kernel) rfl rfl
  have hD2 := t_DR_same hD hX1 hX2 (by decide +kernel) (fun j hj => (hX2.1 70 j (t_nG (lo := 0) (hi := 1400) rfl (Nat.zero_le _) hj)).1) hm12.2
  have hN1 : (g1 69 46).toInt = -1 := t_N46a hN f1 (by decide +kernel)
  have hN2 : (g2 69 46).toInt = -1 := t_N46 hN f1 f2 (by decide +kernel)
  refine ev_alu f_L_law (nx := 492) rfl rfl rfl rfl ?_
  refine ev_jmp f_L_law (nx := 1621) rfl rfl rfl ?_
  exact kk _ _ _ _ ⟨⟨⟨⟨⟨hI2, hH, hJ2, by omega, by omega⟩, hR2, h72⟩, hT2⟩, hD2⟩, hN2⟩
set_option maxRecDepth 20000 in
theorem lc_7 {X : x_Ext} {c : Nat} {i : Int32} {sh : List (Nat ⊕ (Nat × Nat))} {gi : Nat → Nat → Int32} {gl : Nat → Nat → Int64} {gr : Nat → Nat → Value} {P : Option Value → x_G → Prop} (hL : X.1 ≤ 3072) (h0 : 0 ≤ i.toInt) (h1 : i.toInt + 6 ≤ (X.1 : Int)) (hW : t_LE c sh gi gl gr) (kk : ∀ sh2 gi2 gl2 gr2, t_LE (c + 1) sh2 gi2 gl2 gr2 → x_Ev X 1000 n_L_law 1621 [(3, .int i), (2, .ref 69), (1, .ref 0), (0, .retAddr 30)] [] (sh2, gi2, gl2, gr2) P) : x_Ev X 1000 n_L_law 495 [(3, .int i), (2, .ref 69), (1, .ref 0), (0, .retAddr 30)] [] (sh, gi, gl, gr) P := by
  obtain ⟨⟨⟨⟨⟨hI, hH, hJ, hz1, hz2⟩, hR, h7⟩, hT⟩, hD⟩, hN⟩ := hW
  have hk1 : (i + 1).toInt = i.toInt + 1 := t_ik rfl h0 (by omega) (by decide)
  obtain ⟨A1, hA1⟩ : ∃ v, X.2 (i + 1).toNatClampNeg = v := ⟨_, rfl⟩
  have hk2 : (i + 2).toInt = i.toInt + 2 := t_ik rfl h0 (by omega) (by decide)
  obtain ⟨A2, hA2⟩ : ∃ v, X.2 (i + 2).toNatClampNeg = v := ⟨_, rfl⟩
  have hk3 : (i + 3).toInt = i.toInt + 3 := t_ik rfl h0 (by omega) (by decide)
  obtain ⟨A3, hA3⟩ : ∃ v, X.2 (i + 3).toNatClampNeg = v := ⟨_, rfl⟩
  have hk4 : (i + 4).toInt = i.toInt + 4 := t_ik rfl h0 (by omega) (by decide)
  obtain ⟨A4, hA4⟩ : ∃ v, X.2 (i + 4).toNatClampNeg = v := ⟨_, rfl⟩
  have hk5 : (i + 5).toInt = i.toInt + 5 := t_ik rfl h0 (by omega) (by decide)
  obtain ⟨A5, hA5⟩ : ∃ v, X.2 (i + 5).toNatClampNeg = v := ⟨_, rfl⟩
  have hi6 : i.toInt ≤ 3066 := by omega
  have hm12 := hI.b (hI.wf.s (k := 0) rfl) (t_bdK rfl : t_bd 10 12 = some (0, 3))
  refine ev_loc f_L_law (nx := 496) rfl rfl rfl rfl ?_
  refine ev_loc f_L_law (nx := 497) rfl rfl rfl rfl ?_
  refine ev_loc f_L_law (nx := 498) rfl rfl rfl rfl ?_
  refine ev_ic f_L_law (nx := 499) (v := 1) rfl (by decide) rfl ?_
  refine ev_alu f_L_law (nx := 500) rfl rfl rfl rfl ?_
  refine ev_scx f_L_law (nx := 501) (w := A1) rfl (by rw [hk1]; omega) (by rw [hk1]; omega) hA1 rfl ?_
  refine ev_loc f_L_law (nx := 502) rfl rfl rfl rfl ?_
  refine ev_loc f_L_law (nx := 503) rfl rfl rfl rfl ?_
  refine ev_ic f_L_law (nx := 504) (v := 2) rfl (by decide) rfl ?_
  refine ev_alu f_L_law (nx := 505) rfl rfl rfl rfl ?_
  refine ev_scx f_L_law (nx := 506) (w := A2) rfl (by rw [hk2]; omega) (by rw [hk2]; omega) hA2 rfl ?_
  refine ev_loc f_L_law (nx := 507) rfl rfl rfl rfl ?_
  refine ev_loc f_L_law (nx := 508) rfl rfl rfl rfl ?_
  refine ev_ic f_L_law (nx := 509) (v := 3) rfl (by decide) rfl ?_
  refine ev_alu f_L_law (nx := 510) rfl rfl rfl rfl ?_
  refine ev_scx f_L_law (nx := 511) (w := A3) rfl (by rw [hk3]; omega) (by rw [hk3]; omega) hA3 rfl ?_
  refine ev_loc f_L_law (nx := 512) rfl rfl rfl rfl ?_
  refine ev_loc f_L_law (nx := 513) rfl rfl rfl rfl ?_
  refine ev_ic f_L_law (nx := 514) (v := 4) rfl (by decide) rfl ?_
  refine ev_alu f_L_law (nx := 515) rfl rfl rfl rfl ?_
  refine ev_scx f_L_law (nx := 516) (w := A4) rfl (by rw [hk4]; omega) (by rw [hk4]; omega) hA4 rfl ?_
  refine ev_loc f_L_law (nx := 517) rfl rfl rfl rfl ?_
  refine ev_loc f_L_law (nx := 518) rfl rfl rfl rfl ?_
  refine ev_ic f_L_law (nx := 519) (v := 5) rfl (by decide) rfl ?_
  refine ev_alu f_L_law (nx := 520) rfl rfl rfl rfl ?_
  refine ev_scx f_L_law (nx := 521) (w := A5) rfl (by rw [hk5]; omega) (by rw [hk5]; omega) hA5 rfl ?_
  refine ev_lwc f_L_law (nx := 524) rfl rfl rfl rfl rfl rfl rfl (x_Me.up (((x_Me.up (d' := 900) (c_h_feed2 (d := 0) hI (A1) (A2) (A3) (A4) (A5)) (by omega)).and (x_Me.up (d' := 900) (c_s_feed (d := 0) hI (A1) (A2) (A3) (A4) (A5)) (by omega)))) (by omega)) rfl ?_
  rintro _ _ ⟨⟨g1, l1, r1, rfl, hI1, hX1, x1, rfl, bb1, cc1, q1⟩, hq1⟩
  obtain ⟨g9, l9, r9, e9, -, -, x9, e8, -, -, qs1⟩ := hq1
  cases e9; cases e8
  have hJ1 := t_J_ext hJ (hX1.1 69 75 rfl).1 (fun j => (hX1.1 70 j rfl).1)
  have f1 := t_F_X hX1
  refine ev_alu f_L_law (nx := 525) rfl rfl rfl rfl ?_
  refine ev_loc f_L_law (nx := 526) rfl rfl rfl rfl ?_
  refine ev_loc f_L_law (nx := 527) rfl rfl rfl rfl ?_
  refine ev_loc f_L_law (nx := 528) rfl rfl rfl rfl ?_
  refine ev_ic f_L_law (nx := 529) (v := 1) rfl (by decide) rfl ?_
  refine ev_alu f_L_law (nx := 530) rfl rfl rfl rfl ?_
  refine ev_scx f_L_law (nx := 531) (w := A1) rfl (by rw [hk1]; omega) (by rw [hk1]; omega) hA1 rfl ?_
  refine ev_loc f_L_law (nx := 532) rfl rfl rfl rfl ?_
  refine ev_loc f_L_law (nx := 533) rfl rfl rfl rfl ?_
  refine ev_ic f_L_law (nx := 534) (v := 2) rfl (by decide) rfl ?_
  refine ev_alu f_L_law (nx := 535) rfl rfl rfl rfl ?_
  refine ev_scx f_L_law (nx := 536) (w := A2) rfl (by rw [hk2]; omega) (by rw [hk2]; omega) hA2 rfl ?_
  refine ev_loc f_L_law (nx := 537) rfl rfl rfl rfl ?_
  refine ev_loc f_L_law (nx := 538) rfl rfl rfl rfl ?_
  refine ev_ic f_L_law (nx := 539) (v := 3) rfl (by decide) rfl ?_
  refine ev_alu f_L_law (nx := 540) rfl rfl rfl rfl ?_
  refine ev_scx f_L_law (nx := 541) (w := A3) rfl (by rw [hk3]; omega) (by rw [hk3]; omega) hA3 rfl ?_
  refine ev_loc f_L_law (nx := 542) rfl rfl rfl rfl ?_
  refine ev_loc f_L_law (nx := 543) rfl rfl rfl rfl ?_
  refine ev_ic f_L_law (nx := 544) (v := 4) rfl (by decide) rfl ?_
  refine ev_alu f_L_law (nx := 545) rfl rfl rfl rfl ?_
  refine ev_scx f_L_law (nx := 546) (w := A4) rfl (by rw [hk4]; omega) (by rw [hk4]; omega) hA4 rfl ?_
  refine ev_loc f_L_law (nx := 547) rfl rfl rfl rfl ?_
  refine ev_loc f_L_law (nx := 548) rfl rfl rfl rfl ?_
  refine ev_ic f_L_law (nx := 549) (v := 5) rfl (by decide) rfl ?_
  refine ev_alu f_L_law (nx := 550) rfl rfl rfl rfl ?_
  refine ev_scx f_L_law (nx := 551) (w := A5) rfl (by rw [hk5]; omega) (by rw [hk5]; omega) hA5 rfl ?_
  have hm0 : ((0 : Nat) : Int) ≤ (g1 69 75).toInt := (hI1.b (hI1.wf.s (k := 69) rfl) (t_bdK rfl : t_bd 11 75 = some (0, 3))).1
  have hm3 := (hI1.b (hI1.wf.s (k := 69) rfl) (t_bdK rfl : t_bd 11 75 = some (0, 3))).2
  refine ev_lwc f_L_law (nx := 554) rfl rfl rfl rfl rfl rfl rfl (x_Me.up (((x_Me.up (d' := 900) (c_m_feed (d := 0) hI1 (A1) (A2) (A3) (A4) (A5)) (by omega)).and (x_Me.up (d' := 900) (c_n_feed (d := 0) hI1 (A1) (A2) (A3) (A4) (A5)) (by omega)))) (by omega)) rfl ?_
  rintro _ _ ⟨⟨g2, l2, r2, rfl, hI2, hX2, x2, rfl, bb2, cc2, q2⟩, hq2⟩
  obtain ⟨g9, l9, r9, e9, -, -, x9, e8, -, -, qs2⟩ := hq2
  cases e9; cases e8
  have hJ2 := t_J_ext hJ1 (hX2.1 69 75 rfl).1 (fun j => (hX2.1 70 j rfl).1)
  have f2 := t_F_X hX2
  obtain ⟨hA, hR2⟩ := t_L_feed hR f1 f2 q1 q2
  have h72 := t_L_g7 h7 f1 f2 (by decide +kernel)
  have hT2 : t_TP g2 := t_TP_feed hT hR f1 f2 q1 qs1 qs2
  have hD2 := t_DR_same hD hX1 hX2 (by decide +kernel) (fun j hj => (hX2.1 70 j (t_nG (lo := 0) (hi := 1400) rfl (Nat.zero_le _) hj)).1) hm12.2
  have hN1 : (g1 69 46).toInt = -1 := t_N46a hN f1 (by decide +kernel)
  have hN2 : (g2 69 46).toInt = -1 := t_N46 hN f1 f2 (by decide +kernel)
  refine ev_alu f_L_law (nx := 555) rfl rfl rfl rfl ?_
  refine ev_jmp f_L_law (nx := 1621) rfl rfl rfl ?_
  exact kk _ _ _ _ ⟨⟨⟨⟨⟨hI2, hH, hJ2, by omega, by omega⟩, hR2, h72⟩, hT2⟩, hD2⟩, hN2⟩
set_option maxRecDepth 20000 in
theorem lc_8 {X : x_Ext} {c : Nat} {i : Int32} {sh : List (Nat ⊕ (Nat × Nat))} {gi : Nat → Nat → Int32} {gl : Nat → Nat → Int64} {gr : Nat → Nat → Value} {P : Option Value → x_G → Prop} (hL : X.1 ≤ 3072) (h0 : 0 ≤ i.toInt) (h1 : i.toInt + 6 ≤ (X.1 : Int)) (hW : t_LE c sh gi gl gr) (kk : ∀ sh2 gi2 gl2 gr2, t_LE (c + 1) sh2 gi2 gl2 gr2 → x_Ev X 1000 n_L_law 1621 [(3, .int i), (2, .ref 69), (1, .ref 0), (0, .retAddr 30)] [] (sh2, gi2, gl2, gr2) P) : x_Ev X 1000 n_L_law 558 [(3, .int i), (2, .ref 69), (1, .ref 0), (0, .retAddr 30)] [] (sh, gi, gl, gr) P := by
  obtain ⟨⟨⟨⟨⟨hI, hH, hJ, hz1, hz2⟩, hR, h7⟩, hT⟩, hD⟩, hN⟩ := hW
  have hk1 : (i + 1).toInt = i.toInt + 1 := t_ik rfl h0 (by omega) (by decide)
  obtain ⟨A1, hA1⟩ : ∃ v, X.2 (i + 1).toNatClampNeg = v := ⟨_, rfl⟩
  have hi6 : i.toInt ≤ 3066 := by omega
  have hm12 := hI.b (hI.wf.s (k := 0) rfl) (t_bdK rfl : t_bd 10 12 = some (0, 3))
  refine ev_loc f_L_law (nx := 559) rfl rfl rfl rfl ?_
  refine ev_loc f_L_law (nx := 560) rfl rfl rfl rfl ?_
  refine ev_loc f_L_law (nx := 561) rfl rfl rfl rfl ?_
  refine ev_ic f_L_law (nx := 562) (v := 1) rfl (by decide) rfl ?_
  refine ev_alu f_L_law (nx := 563) rfl rfl rfl rfl ?_
  refine ev_scx f_L_law (nx := 564) (w := A1) rfl (by rw [hk1]; omega) (by rw [hk1]; omega) hA1 rfl ?_
  refine ev_lwc f_L_law (nx := 567) rfl rfl rfl rfl rfl rfl rfl (x_Me.up (((x_Me.up (d' := 900) (c_h_river (d := 0) hI hH (A1)) (by omega)).and (x_Me.up (d' := 900) (c_s_river (d := 0) hI hH (A1)) (by omega)))) (by omega)) rfl ?_
  rintro _ _ ⟨⟨ext, g1, l1, r1, rfl, hI1, hH1, hF, hl, hs, x1, rfl, q1⟩, hq1⟩
  obtain ⟨sh9, g9, l9, r9, x9, e9, e8, qs1⟩ := hq1
  cases e9; cases e8
  have hJ1 := t_J_ext hJ (hF 69 75 (by decide) (by decide +kernel)).1 (fun j => (hF 70 j (by decide) rfl).1)
  have f1 : t_F wl_h_river gi gl gr g1 l1 r1 := hF
  refine ev_alu f_L_law (nx := 568) rfl rfl rfl rfl ?_
  refine ev_loc f_L_law (nx := 569) rfl rfl rfl rfl ?_
  refine ev_loc f_L_law (nx := 570) rfl rfl rfl rfl ?_
  refine ev_loc f_L_law (nx := 571) rfl rfl rfl rfl ?_
  refine ev_ic f_L_law (nx := 572) (v := 1) rfl (by decide) rfl ?_
  refine ev_alu f_L_law (nx := 573) rfl rfl rfl rfl ?_
  refine ev_scx f_L_law (nx := 574) (w := A1) rfl (by rw [hk1]; omega) (by rw [hk1]; omega) hA1 rfl ?_
  have hm0 : ((0 : Nat) : Int) ≤ (g1 69 75).toInt := (hI1.b (hI1.wf.s (k := 69) rfl) (t_bdK rfl : t_bd 11 75 = some (0, 3))).1
  have hm3 := (hI1.b (hI1.wf.s (k := 69) rfl) (t_bdK rfl : t_bd 11 75 = some (0, 3))).2
  refine ev_lwc f_L_law (nx := 577) rfl rfl rfl rfl rfl rfl rfl (x_Me.up (((x_Me.up (d' := 900) (x_Me.all (⟨0, by decide⟩ : Fin 350) (fun a => c_m_river (d := 0) hI1 a.1 (Nat.zero_le _) a.2 (A1))) (by omega)).and (x_Me.up (d' := 900) (c_n_river (d := 0) hI1 (A1)) (by omega)))) (by omega)) rfl ?_
  rintro v G2 ⟨hall, hq2⟩
  obtain ⟨g2, l2, r2, rfl, hI2, hX2, x2, rfl, -, -, q2⟩ := hall ⟨0, by decide⟩
  obtain ⟨g9, l9, r9, e9, -, -, x9, e8, -, -, qs2⟩ := hq2
  cases e9; cases e8
  have hq : ∀ j : Nat, j < 350 → Q_m_river g1 l1 r1 j A1 x2 g2 l2 r2 := fun j hj => by
    obtain ⟨g3, l3, r3, e3, -, -, x3, e4, -, -, q3⟩ := hall ⟨j, hj⟩
    cases e3; cases e4; exact q3
  have hJ2 : t_J g2 := by
    refine t_J_0 hI1 hJ1 (hX2.1 69 75 rfl).1 hm3 ?_ (fun j h1 h2 => (hX2.1 70 j (t_nG (lo := 350) (hi := 1400) rfl h1 h2)).1)
    by_cases hall2 : ∀ j : Nat, j < 350 → g2 70 j = g1 70 j
    · exact Or.inl hall2
    · right
      obtain ⟨j, hj⟩ := Classical.not_forall.mp hall2
      obtain ⟨hj, hne⟩ := Classical.not_imp.mp hj
      rcases (hq j hj).2.2 with h | ⟨h3, h4⟩
      · exact absurd h hne
      · exact ⟨fun r hr => absurd hr (by show ¬ ((r : Nat) : Int) < (g2 70 3).toInt; omega), h4⟩
  have f2 := t_F_X hX2
  have hR2 : t_R g2 r2 := t_L_text (C1 := 0 ≤ A1.toInt ∧ A1.toInt ≤ (gi 0 5).toInt) (C2 := 0 ≤ A1.toInt ∧ A1.toInt ≤ (g1 69 10).toInt) hR f1 f2 rfl rfl (fun h => by rw [h]) ⟨q1.1, fun h => (q1.2 h).1⟩ ⟨q2.1, q2.2.1⟩ (by decide +kernel) (by decide +kernel)
  have h72 := t_L_g7 h7 f1 f2 (by decide +kernel)
  have hT2 : t_TP g2 := t_TP_text (C := 0 ≤ A1.toInt ∧ A1.toInt ≤ (gi 0 5).toInt) hT f1 f2 (by decide +kernel) rfl ⟨q1.1, fun h => (q1.2 h).1⟩
  have hD2 := t_DR_river hT hR hD (t_102 hI.wf) (by rw [List.length_append]; omega) hm12.2 f1 (by decide +kernel) rfl hX2 (by decide +kernel) (fun j a b => (hX2.1 70 j (t_nG (lo := 350) (hi := 1400) rfl a b)).1) qs1 qs2
  have hN1 : (g1 69 46).toInt = -1 := t_N46a hN f1 (by decide +kernel)
  have hN2 : (g2 69 46).toInt = -1 := t_N46 hN f1 f2 (by decide +kernel)
  refine ev_alu f_L_law (nx := 578) rfl rfl rfl rfl ?_
  refine ev_jmp f_L_law (nx := 1621) rfl rfl rfl ?_
  exact kk _ _ _ _ ⟨⟨⟨⟨⟨hI2, hH1, hJ2, by rw [List.length_append]; omega, by rw [List.map_append, List.sum_append]; omega⟩, hR2, h72⟩, hT2⟩, hD2⟩, hN2⟩
set_option maxRecDepth 20000 in
theorem lc_9 {X : x_Ext} {c : Nat} {i : Int32} {sh : List (Nat ⊕ (Nat × Nat))} {gi : Nat → Nat → Int32} {gl : Nat → Nat → Int64} {gr : Nat → Nat → Value} {P : Option Value → x_G → Prop} (hL : X.1 ≤ 3072) (h0 : 0 ≤ i.toInt) (h1 : i.toInt + 6 ≤ (X.1 : Int)) (hW : t_LE c sh gi gl gr) (kk : ∀ sh2 gi2 gl2 gr2, t_LE (c + 1) sh2 gi2 gl2 gr2 → x_Ev X 1000 n_L_law 1621 [(3, .int i), (2, .ref 69), (1, .ref 0), (0, .retAddr 30)] [] (sh2, gi2, gl2, gr2) P) : x_Ev X 1000 n_L_law 581 [(3, .int i), (2, .ref 69), (1, .ref 0), (0, .retAddr 30)] [] (sh, gi, gl, gr) P := by
  obtain ⟨⟨⟨⟨⟨hI, hH, hJ, hz1, hz2⟩, hR, h7⟩, hT⟩, hD⟩, hN⟩ := hW
  have hk1 : (i + 1).toInt = i.toInt + 1 := t_ik rfl h0 (by omega) (by decide)
  obtain ⟨A1, hA1⟩ : ∃ v, X.2 (i + 1).toNatClampNeg = v := ⟨_, rfl⟩
  have hi6 : i.toInt ≤ 3066 := by omega
  have hm12 := hI.b (hI.wf.s (k := 0) rfl) (t_bdK rfl : t_bd 10 12 = some (0, 3))
  refine ev_loc f_L_law (nx := 582) rfl rfl rfl rfl ?_
  refine ev_loc f_L_law (nx := 583) rfl rfl rfl rfl ?_
  refine ev_loc f_L_law (nx := 584) rfl rfl rfl rfl ?_
  refine ev_ic f_L_law (nx := 585) (v := 1) rfl (by decide) rfl ?_
  refine ev_alu f_L_law (nx := 586) rfl rfl rfl rfl ?_
  refine ev_scx f_L_law (nx := 587) (w := A1) rfl (by rw [hk1]; omega) (by rw [hk1]; omega) hA1 rfl ?_
  refine ev_lwc f_L_law (nx := 590) rfl rfl rfl rfl rfl rfl rfl (x_Me.up (((x_Me.up (d' := 900) (c_h_rules (d := 0) hI hH (A1)) (by omega)).and (x_Me.up (d' := 900) (c_u_rules (d := 0) hI hH (A1)) (by omega)))) (by omega)) rfl ?_
  rintro _ _ ⟨⟨ext, g1, l1, r1, rfl, hI1, hH1, hF, hl, hs, x1, rfl, q1⟩, hq1⟩
  obtain ⟨sh9, g9, l9, r9, x9, e9, e8, qs1⟩ := hq1
  cases e9; cases e8
  have hJ1 := t_J_ext hJ (hF 69 75 (by decide) (by decide +kernel)).1 (fun j => (hF 70 j (by decide) rfl).1)
  have f1 : t_F wl_h_rules gi gl gr g1 l1 r1 := hF
  refine ev_alu f_L_law (nx := 591) rfl rfl rfl rfl ?_
  refine ev_loc f_L_law (nx := 592) rfl rfl rfl rfl ?_
  refine ev_loc f_L_law (nx := 593) rfl rfl rfl rfl ?_
  refine ev_loc f_L_law (nx := 594) rfl rfl rfl rfl ?_
  refine ev_ic f_L_law (nx := 595) (v := 1) rfl (by decide) rfl ?_
  refine ev_alu f_L_law (nx := 596) rfl rfl rfl rfl ?_
  refine ev_scx f_L_law (nx := 597) (w := A1) rfl (by rw [hk1]; omega) (by rw [hk1]; omega) hA1 rfl ?_
  have hm0 : ((0 : Nat) : Int) ≤ (g1 69 75).toInt := (hI1.b (hI1.wf.s (k := 69) rfl) (t_bdK rfl : t_bd 11 75 = some (0, 3))).1
  have hm3 := (hI1.b (hI1.wf.s (k := 69) rfl) (t_bdK rfl : t_bd 11 75 = some (0, 3))).2
  refine ev_lwc f_L_law (nx := 600) rfl rfl rfl rfl rfl rfl rfl (x_Me.up (x_Me.all (⟨0, by decide⟩ : Fin 350) (fun a => c_m_rules (d := 0) hI1 a.1 (Nat.zero_le _) a.2 (A1))) (by omega)) rfl ?_
  intro v G2 hall
  obtain ⟨g2, l2, r2, rfl, hI2, hX2, x2, rfl, -, -, q2⟩ := hall ⟨0, by decide⟩
  have hq : ∀ j : Nat, j < 350 → Q_m_rules g1 l1 r1 j A1 x2 g2 l2 r2 := fun j hj => by
    obtain ⟨g3, l3, r3, e3, -, -, x3, e4, -, -, q3⟩ := hall ⟨j, hj⟩
    cases e3; cases e4; exact q3
  have hJ2 : t_J g2 := by
    refine t_J_0 hI1 hJ1 (hX2.1 69 75 rfl).1 hm3 ?_ (fun j h1 h2 => (hX2.1 70 j (t_nG (lo := 350) (hi := 1400) rfl h1 h2)).1)
    by_cases hall2 : ∀ j : Nat, j < 350 → g2 70 j = g1 70 j
    · exact Or.inl hall2
    · right
      obtain ⟨j, hj⟩ := Classical.not_forall.mp hall2
      obtain ⟨hj, hne⟩ := Classical.not_imp.mp hj
      rcases (hq j hj).2.2 with h | ⟨h3, h4⟩
      · exact absurd h hne
      · exact ⟨h3, by rw [h4]; exact (hJ1 0 hm0).2⟩
  have f2 := t_F_X hX2
  have hR2 : t_R g2 r2 := t_L_text (C1 := 0 ≤ A1.toInt ∧ A1.toInt ≤ (gi 0 5).toInt ∧ A1.toInt ≤ 300) (C2 := 0 ≤ A1.toInt ∧ A1.toInt ≤ (g1 69 10).toInt ∧ A1.toInt ≤ 300) hR f1 f2 rfl rfl (fun h => by rw [h]) ⟨q1.1, fun h => (q1.2 h).1⟩ ⟨q2.1, q2.2.1⟩ (by decide +kernel) (by decide +kernel)
  have h72 := t_L_g7 h7 f1 f2 (by decide +kernel)
  have hT2 : t_TP g2 := t_TP_text (C := 0 ≤ A1.toInt ∧ A1.toInt ≤ (gi 0 5).toInt ∧ A1.toInt ≤ 300) hT f1 f2 (by decide +kernel) rfl ⟨q1.1, fun h => (q1.2 h).1⟩
  have hD2 := t_DR_rules hD (t_102 hI.wf) (by rw [List.length_append]; omega) hm12.2 f1 (by decide +kernel) hX2 (by decide +kernel) (fun j a b c d => (hX2.1 70 j (t_nD (by decide +kernel) a b c d)).1) qs1
  have hN1 : (g1 69 46).toInt = -1 := t_N46a hN f1 (by decide +kernel)
  have hN2 : (g2 69 46).toInt = -1 := t_N46 hN f1 f2 (by decide +kernel)
  refine ev_alu f_L_law (nx := 601) rfl rfl rfl rfl ?_
  refine ev_jmp f_L_law (nx := 1621) rfl rfl rfl ?_
  exact kk _ _ _ _ ⟨⟨⟨⟨⟨hI2, hH1, hJ2, by rw [List.length_append]; omega, by rw [List.map_append, List.sum_append]; omega⟩, hR2, h72⟩, hT2⟩, hD2⟩, hN2⟩
set_option maxRecDepth 20000 in
theorem lc_10 {X : x_Ext} {c : Nat} {i : Int32} {sh : List (Nat ⊕ (Nat × Nat))} {gi : Nat → Nat → Int32} {gl : Nat → Nat → Int64} {gr : Nat → Nat → Value} {P : Option Value → x_G → Prop} (hL : X.1 ≤ 3072) (h0 : 0 ≤ i.toInt) (h1 : i.toInt + 6 ≤ (X.1 : Int)) (hW : t_LE c sh gi gl gr) (kk : ∀ sh2 gi2 gl2 gr2, t_LE (c + 1) sh2 gi2 gl2 gr2 → x_Ev X 1000 n_L_law 1621 [(3, .int i), (2, .ref 69), (1, .ref 0), (0, .retAddr 30)] [] (sh2, gi2, gl2, gr2) P) : x_Ev X 1000 n_L_law 604 [(3, .int i), (2, .ref 69), (1, .ref 0), (0, .retAddr 30)] [] (sh, gi, gl, gr) P := by
  obtain ⟨⟨⟨⟨⟨hI, hH, hJ, hz1, hz2⟩, hR, h7⟩, hT⟩, hD⟩, hN⟩ := hW
  have hk1 : (i + 1).toInt = i.toInt + 1 := t_ik rfl h0 (by omega) (by decide)
  obtain ⟨A1, hA1⟩ : ∃ v, X.2 (i + 1).toNatClampNeg = v := ⟨_, rfl⟩
  have hi6 : i.toInt ≤ 3066 := by omega
  have hm12 := hI.b (hI.wf.s (k := 0) rfl) (t_bdK rfl : t_bd 10 12 = some (0, 3))
  refine ev_loc f_L_law (nx := 605) rfl rfl rfl rfl ?_
  refine ev_loc f_L_law (nx := 606) rfl rfl rfl rfl ?_
  refine ev_loc f_L_law (nx := 607) rfl rfl rfl rfl ?_
  refine ev_ic f_L_law (nx := 608) (v := 1) rfl (by decide) rfl ?_
  refine ev_alu f_L_law (nx := 609) rfl rfl rfl rfl ?_
  refine ev_scx f_L_law (nx := 610) (w := A1) rfl (by rw [hk1]; omega) (by rw [hk1]; omega) hA1 rfl ?_
  refine ev_lwc f_L_law (nx := 613) rfl rfl rfl rfl rfl rfl rfl (x_Me.up (c_h_fault (d := 0) hI (A1)) (by omega)) rfl ?_
  rintro _ _ ⟨g1, l1, r1, rfl, hI1, hX1, x1, rfl, -, -⟩
  have hJ1 := t_J_ext hJ (hX1.1 69 75 rfl).1 (fun j => (hX1.1 70 j rfl).1)
  have f1 := t_F_X hX1
  refine ev_alu f_L_law (nx := 614) rfl rfl rfl rfl ?_
  refine ev_loc f_L_law (nx := 615) rfl rfl rfl rfl ?_
  refine ev_loc f_L_law (nx := 616) rfl rfl rfl rfl ?_
  refine ev_loc f_L_law (nx := 617) rfl rfl rfl rfl ?_
  refine ev_ic f_L_law (nx := 618) (v := 1) rfl (by decide) rfl ?_
  refine ev_alu f_L_law (nx := 619) rfl rfl rfl rfl ?_
  refine ev_scx f_L_law (nx := 620) (w := A1) rfl (by rw [hk1]; omega) (by rw [hk1]; omega) hA1 rfl ?_
  have hm0 : ((0 : Nat) : Int) ≤ (g1 69 75).toInt := (hI1.b (hI1.wf.s (k := 69) rfl) (t_bdK rfl : t_bd 11 75 = some (0, 3))).1
  have hm3 := (hI1.b (hI1.wf.s (k := 69) rfl) (t_bdK rfl : t_bd 11 75 = some (0, 3))).2
  refine ev_lwc f_L_law (nx := 623) rfl rfl rfl rfl rfl rfl rfl (x_Me.up (c_m_fault (d := 0) hI1 (A1)) (by omega)) rfl ?_
  rintro _ _ ⟨g2, l2, r2, rfl, hI2, hX2, x2, rfl, -, -⟩
  have hJ2 := t_J_ext hJ1 (hX2.1 69 75 rfl).1 (fun j => (hX2.1 70 j rfl).1)
  have f2 := t_F_X hX2
  have hR2 : t_R g2 r2 := t_L_gen hR f1 f2 (by decide +kernel) (by decide +kernel)
  have h72 := t_L_g7 h7 f1 f2 (by decide +kernel)
  have hT2 : t_TP g2 := t_TP_same hT f1 f2 (by decide +kernel) rfl rfl
  have hD2 := t_DR_same hD hX1 hX2 (by decide +kernel) (fun j hj => (hX2.1 70 j (t_nG (lo := 0) (hi := 1400) rfl (Nat.zero_le _) hj)).1) hm12.2
  have hN1 : (g1 69 46).toInt = -1 := t_N46a hN f1 (by decide +kernel)
  have hN2 : (g2 69 46).toInt = -1 := t_N46 hN f1 f2 (by decide +kernel)
  refine ev_alu f_L_law (nx := 624) rfl rfl rfl rfl ?_
  refine ev_jmp f_L_law (nx := 1621) rfl rfl rfl ?_
  exact kk _ _ _ _ ⟨⟨⟨⟨⟨hI2, hH, hJ2, by omega, by omega⟩, hR2, h72⟩, hT2⟩, hD2⟩, hN2⟩
set_option maxRecDepth 20000 in
theorem lc_11 {X : x_Ext} {c : Nat} {i : Int32} {sh : List (Nat ⊕ (Nat × Nat))} {gi : Nat → Nat → Int32} {gl : Nat → Nat → Int64} {gr : Nat → Nat → Value} {P : Option Value → x_G → Prop} (hL : X.1 ≤ 3072) (h0 : 0 ≤ i.toInt) (h1 : i.toInt + 6 ≤ (X.1 : Int)) (hW : t_LE c sh gi gl gr) (kk : ∀ sh2 gi2 gl2 gr2, t_LE (c + 1) sh2 gi2 gl2 gr2 → x_Ev X 1000 n_L_law 1621 [(3, .int i), (2, .ref 69), (1, .ref 0), (0, .retAddr 30)] [] (sh2, gi2, gl2, gr2) P) : x_Ev X 1000 n_L_law 627 [(3, .int i), (2, .ref 69), (1, .ref 0), (0, .retAddr 30)] [] (sh, gi, gl, gr) P := by
  obtain ⟨⟨⟨⟨⟨hI, hH, hJ, hz1, hz2⟩, hR, h7⟩, hT⟩, hD⟩, hN⟩ := hW
  have hk1 : (i + 1).toInt = i.toInt + 1 := t_ik rfl h0 (by omega) (by decide)
  obtain ⟨A1, hA1⟩ : ∃ v, X.2 (i + 1).toNatClampNeg = v := ⟨_, rfl⟩
  have hi6 : i.toInt ≤ 3066 := by omega
  have hm12 := hI.b (hI.wf.s (k := 0) rfl) (t_bdK rfl : t_bd 10 12 = some (0, 3))
  refine ev_loc f_L_law (nx := 628) rfl rfl rfl rfl ?_
  refine ev_loc f_L_law (nx := 629) rfl rfl rfl rfl ?_
  refine ev_loc f_L_law (nx := 630) rfl rfl rfl rfl ?_
  refine ev_ic f_L_law (nx := 631) (v := 1) rfl (by decide) rfl ?_
  refine ev_alu f_L_law (nx := 632) rfl rfl rfl rfl ?_
  refine ev_scx f_L_law (nx := 633) (w := A1) rfl (by rw [hk1]; omega) (by rw [hk1]; omega) hA1 rfl ?_
  refine ev_lwc f_L_law (nx := 636) rfl rfl rfl rfl rfl rfl rfl (x_Me.up (c_h_told (d := 0) hI (A1)) (by omega)) rfl ?_
  rintro _ _ ⟨g1, l1, r1, rfl, hI1, hX1, x1, rfl, -, -⟩
  have hJ1 := t_J_ext hJ (hX1.1 69 75 rfl).1 (fun j => (hX1.1 70 j rfl).1)
  have f1 := t_F_X hX1
  refine ev_alu f_L_law (nx := 637) rfl rfl rfl rfl ?_
  refine ev_loc f_L_law (nx := 638) rfl rfl rfl rfl ?_
  refine ev_loc f_L_law (nx := 639) rfl rfl rfl rfl ?_
  refine ev_loc f_L_law (nx := 640) rfl rfl rfl rfl ?_
  refine ev_ic f_L_law (nx := 641) (v := 1) rfl (by decide) rfl ?_
  refine ev_alu f_L_law (nx := 642) rfl rfl rfl rfl ?_
  refine ev_scx f_L_law (nx := 643) (w := A1) rfl (by rw [hk1]; omega) (by rw [hk1]; omega) hA1 rfl ?_
  have hm0 : ((0 : Nat) : Int) ≤ (g1 69 75).toInt := (hI1.b (hI1.wf.s (k := 69) rfl) (t_bdK rfl : t_bd 11 75 = some (0, 3))).1
  have hm3 := (hI1.b (hI1.wf.s (k := 69) rfl) (t_bdK rfl : t_bd 11 75 = some (0, 3))).2
  refine ev_lwc f_L_law (nx := 646) rfl rfl rfl rfl rfl rfl rfl (x_Me.up (c_m_told (d := 0) hI1 (A1)) (by omega)) rfl ?_
  rintro _ _ ⟨g2, l2, r2, rfl, hI2, hX2, x2, rfl, -, -⟩
  have hJ2 := t_J_ext hJ1 (hX2.1 69 75 rfl).1 (fun j => (hX2.1 70 j rfl).1)
  have f2 := t_F_X hX2
  have hR2 : t_R g2 r2 := t_L_gen hR f1 f2 (by decide +kernel) (by decide +kernel)
  have h72 := t_L_g7 h7 f1 f2 (by decide +kernel)
  have hT2 : t_TP g2 := t_TP_same hT f1 f2 (by decide +kernel) rfl rfl
  have hD2 := t_DR_same hD hX1 hX2 (by decide +kernel) (fun j hj => (hX2.1 70 j (t_nG (lo := 0) (hi := 1400) rfl (Nat.zero_le _) hj)).1) hm12.2
  have hN1 : (g1 69 46).toInt = -1 := t_N46a hN f1 (by decide +kernel)
  have hN2 : (g2 69 46).toInt = -1 := t_N46 hN f1 f2 (by decide +kernel)
  refine ev_alu f_L_law (nx := 647) rfl rfl rfl rfl ?_
  refine ev_jmp f_L_law (nx := 1621) rfl rfl rfl ?_
  exact kk _ _ _ _ ⟨⟨⟨⟨⟨hI2, hH, hJ2, by omega, by omega⟩, hR2, h72⟩, hT2⟩, hD2⟩, hN2⟩
set_option maxRecDepth 20000 in
theorem lc_12 {X : x_Ext} {c : Nat} {i : Int32} {sh : List (Nat ⊕ (Nat × Nat))} {gi : Nat → Nat → Int32} {gl : Nat → Nat → Int64} {gr : Nat → Nat → Value} {P : Option Value → x_G → Prop} (hL : X.1 ≤ 3072) (h0 : 0 ≤ i.toInt) (h1 : i.toInt + 6 ≤ (X.1 : Int)) (hW : t_LE c sh gi gl gr) (kk : ∀ sh2 gi2 gl2 gr2, t_LE (c + 1) sh2 gi2 gl2 gr2 → x_Ev X 1000 n_L_law 1621 [(3, .int i), (2, .ref 69), (1, .ref 0), (0, .retAddr 30)] [] (sh2, gi2, gl2, gr2) P) : x_Ev X 1000 n_L_law 650 [(3, .int i), (2, .ref 69), (1, .ref 0), (0, .retAddr 30)] [] (sh, gi, gl, gr) P := by
  obtain ⟨⟨⟨⟨⟨hI, hH, hJ, hz1, hz2⟩, hR, h7⟩, hT⟩, hD⟩, hN⟩ := hW
  have hk1 : (i + 1).toInt = i.toInt + 1 := t_ik rfl h0 (by omega) (by decide)
  obtain ⟨A1, hA1⟩ : ∃ v, X.2 (i + 1).toNatClampNeg = v := ⟨_, rfl⟩
  have hk2 : (i + 2).toInt = i.toInt + 2 := t_ik rfl h0 (by omega) (by decide)
  obtain ⟨A2, hA2⟩ : ∃ v, X.2 (i + 2).toNatClampNeg = v := ⟨_, rfl⟩
  have hi6 : i.toInt ≤ 3066 := by omega
  have hm12 := hI.b (hI.wf.s (k := 0) rfl) (t_bdK rfl : t_bd 10 12 = some (0, 3))
  refine ev_loc f_L_law (nx := 651) rfl rfl rfl rfl ?_
  refine ev_loc f_L_law (nx := 652) rfl rfl rfl rfl ?_
  refine ev_loc f_L_law (nx := 653) rfl rfl rfl rfl ?_
  refine ev_ic f_L_law (nx := 654) (v := 1) rfl (by decide) rfl ?_
  refine ev_alu f_L_law (nx := 655) rfl rfl rfl rfl ?_
  refine ev_scx f_L_law (nx := 656) (w := A1) rfl (by rw [hk1]; omega) (by rw [hk1]; omega) hA1 rfl ?_
  refine ev_loc f_L_law (nx := 657) rfl rfl rfl rfl ?_
  refine ev_loc f_L_law (nx := 658) rfl rfl rfl rfl ?_
  refine ev_ic f_L_law (nx := 659) (v := 2) rfl (by decide) rfl ?_
  refine ev_alu f_L_law (nx := 660) rfl rfl rfl rfl ?_
  refine ev_scx f_L_law (nx := 661) (w := A2) rfl (by rw [hk2]; omega) (by rw [hk2]; omega) hA2 rfl ?_
  refine ev_lwc f_L_law (nx := 664) rfl rfl rfl rfl rfl rfl rfl (x_Me.up (c_h_ship (d := 0) hI (A1) (A2)) (by omega)) rfl ?_
  rintro _ _ ⟨g1, l1, r1, rfl, hI1, hX1, x1, rfl, -, -⟩
  have hJ1 := t_J_ext hJ (hX1.1 69 75 rfl).1 (fun j => (hX1.1 70 j rfl).1)
  have f1 := t_F_X hX1
  refine ev_alu f_L_law (nx := 665) rfl rfl rfl rfl ?_
  refine ev_loc f_L_law (nx := 666) rfl rfl rfl rfl ?_
  refine ev_loc f_L_law (nx := 667) rfl rfl rfl rfl ?_
  refine ev_loc f_L_law (nx := 668) rfl rfl rfl rfl ?_
  refine ev_ic f_L_law (nx := 669) (v := 1) rfl (by decide) rfl ?_
  refine ev_alu f_L_law (nx := 670) rfl rfl rfl rfl ?_
  refine ev_scx f_L_law (nx := 671) (w := A1) rfl (by rw [hk1]; omega) (by rw [hk1]; omega) hA1 rfl ?_
  refine ev_loc f_L_law (nx := 672) rfl rfl rfl rfl ?_
  refine ev_loc f_L_law (nx := 673) rfl rfl rfl rfl ?_
  refine ev_ic f_L_law (nx := 674) (v := 2) rfl (by decide) rfl ?_
  refine ev_alu f_L_law (nx := 675) rfl rfl rfl rfl ?_
  refine ev_scx f_L_law (nx := 676) (w := A2) rfl (by rw [hk2]; omega) (by rw [hk2]; omega) hA2 rfl ?_
  have hm0 : ((0 : Nat) : Int) ≤ (g1 69 75).toInt := (hI1.b (hI1.wf.s (k := 69) rfl) (t_bdK rfl : t_bd 11 75 = some (0, 3))).1
  have hm3 := (hI1.b (hI1.wf.s (k := 69) rfl) (t_bdK rfl : t_bd 11 75 = some (0, 3))).2
  refine ev_lwc f_L_law (nx := 679) rfl rfl rfl rfl rfl rfl rfl (x_Me.up (c_m_ship (d := 0) hI1 (A1) (A2)) (by omega)) rfl ?_
  rintro _ _ ⟨g2, l2, r2, rfl, hI2, hX2, x2, rfl, -, -⟩
  have hJ2 := t_J_ext hJ1 (hX2.1 69 75 rfl).1 (fun j => (hX2.1 70 j rfl).1)
  have f2 := t_F_X hX2
  have hR2 : t_R g2 r2 := t_L_gen hR f1 f2 (by decide +kernel) (by decide +kernel)
  have h72 := t_L_g7 h7 f1 f2 (by decide +kernel)
  have hT2 : t_TP g2 := t_TP_same hT f1 f2 (by decide +kernel) rfl rfl
  have hD2 := t_DR_same hD hX1 hX2 (by decide +kernel) (fun j hj => (hX2.1 70 j (t_nG (lo := 0) (hi := 1400) rfl (Nat.zero_le _) hj)).1) hm12.2
  have hN1 : (g1 69 46).toInt = -1 := t_N46a hN f1 (by decide +kernel)
  have hN2 : (g2 69 46).toInt = -1 := t_N46 hN f1 f2 (by decide +kernel)
  refine ev_alu f_L_law (nx := 680) rfl rfl rfl rfl ?_
  refine ev_jmp f_L_law (nx := 1621) rfl rfl rfl ?_
  exact kk _ _ _ _ ⟨⟨⟨⟨⟨hI2, hH, hJ2, by omega, by omega⟩, hR2, h72⟩, hT2⟩, hD2⟩, hN2⟩
set_option maxRecDepth 20000 in
theorem lc_13 {X : x_Ext} {c : Nat} {i : Int32} {sh : List (Nat ⊕ (Nat × Nat))} {gi : Nat → Nat → Int32} {gl : Nat → Nat → Int64} {gr : Nat → Nat → Value} {P : Option Value → x_G → Prop} (hL : X.1 ≤ 3072) (h0 : 0 ≤ i.toInt) (h1 : i.toInt + 6 ≤ (X.1 : Int)) (hW : t_LE c sh gi gl gr) (kk : ∀ sh2 gi2 gl2 gr2, t_LE (c + 1) sh2 gi2 gl2 gr2 → x_Ev X 1000 n_L_law 1621 [(3, .int i), (2, .ref 69), (1, .ref 0), (0, .retAddr 30)] [] (sh2, gi2, gl2, gr2) P) : x_Ev X 1000 n_L_law 683 [(3, .int i), (2, .ref 69), (1, .ref 0), (0, .retAddr 30)] [] (sh, gi, gl, gr) P := by
  obtain ⟨⟨⟨⟨⟨hI, hH, hJ, hz1, hz2⟩, hR, h7⟩, hT⟩, hD⟩, hN⟩ := hW
  have hk1 : (i + 1).toInt = i.toInt + 1 := t_ik rfl h0 (by omega) (by decide)
  obtain ⟨A1, hA1⟩ : ∃ v, X.2 (i + 1).toNatClampNeg = v := ⟨_, rfl⟩
  have hk2 : (i + 2).toInt = i.toInt + 2 := t_ik rfl h0 (by omega) (by decide)
  obtain ⟨A2, hA2⟩ : ∃ v, X.2 (i + 2).toNatClampNeg = v := ⟨_, rfl⟩
  have hi6 : i.toInt ≤ 3066 := by omega
  have hm12 := hI.b (hI.wf.s (k := 0) rfl) (t_bdK rfl : t_bd 10 12 = some (0, 3))
  refine ev_loc f_L_law (nx := 684) rfl rfl rfl rfl ?_
  refine ev_loc f_L_law (nx := 685) rfl rfl rfl rfl ?_
  refine ev_loc f_L_law (nx := 686) rfl rfl rfl rfl ?_
  refine ev_ic f_L_law (nx := 687) (v := 1) rfl (by decide) rfl ?_
  refine ev_alu f_L_law (nx := 688) rfl rfl rfl rfl ?_
  refine ev_scx f_L_law (nx := 689) (w := A1) rfl (by rw [hk1]; omega) (by rw [hk1]; omega) hA1 rfl ?_
  refine ev_loc f_L_law (nx := 690) rfl rfl rfl rfl ?_
  refine ev_loc f_L_law (nx := 691) rfl rfl rfl rfl ?_
  refine ev_ic f_L_law (nx := 692) (v := 2) rfl (by decide) rfl ?_
  refine ev_alu f_L_law (nx := 693) rfl rfl rfl rfl ?_
  refine ev_scx f_L_law (nx := 694) (w := A2) rfl (by rw [hk2]; omega) (by rw [hk2]; omega) hA2 rfl ?_
  refine ev_lwc f_L_law (nx := 697) rfl rfl rfl rfl rfl rfl rfl (x_Me.up (c_h_cart (d := 0) hI (A1) (A2)) (by omega)) rfl ?_
  rintro _ _ ⟨g1, l1, r1, rfl, hI1, hX1, x1, rfl, -, -⟩
  have hJ1 := t_J_ext hJ (hX1.1 69 75 rfl).1 (fun j => (hX1.1 70 j rfl).1)
  have f1 := t_F_X hX1
  refine ev_alu f_L_law (nx := 698) rfl rfl rfl rfl ?_
  refine ev_loc f_L_law (nx := 699) rfl rfl rfl rfl ?_
  refine ev_loc f_L_law (nx := 700) rfl rfl rfl rfl ?_
  refine ev_loc f_L_law (nx := 701) rfl rfl rfl rfl ?_
  refine ev_ic f_L_law (nx := 702) (v := 1) rfl (by decide) rfl ?_
  refine ev_alu f_L_law (nx := 703) rfl rfl rfl rfl ?_
  refine ev_scx f_L_law (nx := 704) (w := A1) rfl (by rw [hk1]; omega) (by rw [hk1]; omega) hA1 rfl ?_
  refine ev_loc f_L_law (nx := 705) rfl rfl rfl rfl ?_
  refine ev_loc f_L_law (nx := 706) rfl rfl rfl rfl ?_
  refine ev_ic f_L_law (nx := 707) (v := 2) rfl (by decide) rfl ?_
  refine ev_alu f_L_law (nx := 708) rfl rfl rfl rfl ?_
  refine ev_scx f_L_law (nx := 709) (w := A2) rfl (by rw [hk2]; omega) (by rw [hk2]; omega) hA2 rfl ?_
  have hm0 : ((0 : Nat) : Int) ≤ (g1 69 75).toInt := (hI1.b (hI1.wf.s (k := 69) rfl) (t_bdK rfl : t_bd 11 75 = some (0, 3))).1
  have hm3 := (hI1.b (hI1.wf.s (k := 69) rfl) (t_bdK rfl : t_bd 11 75 = some (0, 3))).2
  refine ev_lwc f_L_law (nx := 712) rfl rfl rfl rfl rfl rfl rfl (x_Me.up (c_m_cart (d := 0) hI1 (A1) (A2)) (by omega)) rfl ?_
  rintro _ _ ⟨g2, l2, r2, rfl, hI2, hX2, x2, rfl, -, -⟩
  have hJ2 := t_J_ext hJ1 (hX2.1 69 75 rfl).1 (fun j => (hX2.1 70 j rfl).1)
  have f2 := t_F_X hX2
  have hR2 : t_R g2 r2 := t_L_gen hR f1 f2 (by decide +kernel) (by decide +kernel)
  have h72 := t_L_g7 h7 f1 f2 (by decide +kernel)
  have hT2 : t_TP g2 := t_TP_same hT f1 f2 (by decide +kernel) rfl rfl
  have hD2 := t_DR_same hD hX1 hX2 (by decide +kernel) (fun j hj => (hX2.1 70 j (t_nG (lo := 0) (hi := 1400) rfl (Nat.zero_le _) hj)).1) hm12.2
  have hN1 : (g1 69 46).toInt = -1 := t_N46a hN f1 (by decide +kernel)
  have hN2 : (g2 69 46).toInt = -1 := t_N46 hN f1 f2 (by decide +kernel)
  refine ev_alu f_L_law (nx := 713) rfl rfl rfl rfl ?_
  refine ev_jmp f_L_law (nx := 1621) rfl rfl rfl ?_
  exact kk _ _ _ _ ⟨⟨⟨⟨⟨hI2, hH, hJ2, by omega, by omega⟩, hR2, h72⟩, hT2⟩, hD2⟩, hN2⟩
set_option maxRecDepth 20000 in
theorem lc_14 {X : x_Ext} {c : Nat} {i : Int32} {sh : List (Nat ⊕ (Nat × Nat))} {gi : Nat → Nat → Int32} {gl : Nat → Nat → Int64} {gr : Nat → Nat → Value} {P : Option Value → x_G → Prop} (hL : X.1 ≤ 3072) (h0 : 0 ≤ i.toInt) (h1 : i.toInt + 6 ≤ (X.1 : Int)) (hW : t_LE c sh gi gl gr) (kk : ∀ sh2 gi2 gl2 gr2, t_LE (c + 1) sh2 gi2 gl2 gr2 → x_Ev X 1000 n_L_law 1621 [(3, .int i), (2, .ref 69), (1, .ref 0), (0, .retAddr 30)] [] (sh2, gi2, gl2, gr2) P) : x_Ev X 1000 n_L_law 716 [(3, .int i), (2, .ref 69), (1, .ref 0), (0, .retAddr 30)] [] (sh, gi, gl, gr) P := by
  obtain ⟨⟨⟨⟨⟨hI, hH, hJ, hz1, hz2⟩, hR, h7⟩, hT⟩, hD⟩, hN⟩ := hW
  have hk1 : (i + 1).toInt = i.toInt + 1 := t_ik rfl h0 (by omega) (by decide)
  obtain ⟨A1, hA1⟩ : ∃ v, X.2 (i + 1).toNatClampNeg = v := ⟨_, rfl⟩
  have hi6 : i.toInt ≤ 3066 := by omega
  have hm12 := hI.b (hI.wf.s (k := 0) rfl) (t_bdK rfl : t_bd 10 12 = some (0, 3))
  refine ev_loc f_L_law (nx := 717) rfl rfl rfl rfl ?_
  refine ev_loc f_L_law (nx := 718) rfl rfl rfl rfl ?_
  refine ev_loc f_L_law (nx := 719) rfl rfl rfl rfl ?_
  refine ev_ic f_L_law (nx := 720) (v := 1) rfl (by decide) rfl ?_
  refine ev_alu f_L_law (nx := 721) rfl rfl rfl rfl ?_
  refine ev_scx f_L_law (nx := 722) (w := A1) rfl (by rw [hk1]; omega) (by rw [hk1]; omega) hA1 rfl ?_
  refine ev_lwc f_L_law (nx := 725) rfl rfl rfl rfl rfl rfl rfl (x_Me.up (c_h_nextShip (d := 0) hI (A1)) (by omega)) rfl ?_
  rintro _ _ ⟨g1, l1, r1, rfl, hI1, hX1, x1, rfl, -, -⟩
  have hJ1 := t_J_ext hJ (hX1.1 69 75 rfl).1 (fun j => (hX1.1 70 j rfl).1)
  have f1 := t_F_X hX1
  refine ev_alu f_L_law (nx := 726) rfl rfl rfl rfl ?_
  refine ev_loc f_L_law (nx := 727) rfl rfl rfl rfl ?_
  refine ev_loc f_L_law (nx := 728) rfl rfl rfl rfl ?_
  refine ev_loc f_L_law (nx := 729) rfl rfl rfl rfl ?_
  refine ev_ic f_L_law (nx := 730) (v := 1) rfl (by decide) rfl ?_
  refine ev_alu f_L_law (nx := 731) rfl rfl rfl rfl ?_
  refine ev_scx f_L_law (nx := 732) (w := A1) rfl (by rw [hk1]; omega) (by rw [hk1]; omega) hA1 rfl ?_
  have hm0 : ((0 : Nat) : Int) ≤ (g1 69 75).toInt := (hI1.b (hI1.wf.s (k := 69) rfl) (t_bdK rfl : t_bd 11 75 = some (0, 3))).1
  have hm3 := (hI1.b (hI1.wf.s (k := 69) rfl) (t_bdK rfl : t_bd 11 75 = some (0, 3))).2
  refine ev_lwc f_L_law (nx := 735) rfl rfl rfl rfl rfl rfl rfl (x_Me.up (c_m_nextShip (d := 0) hI1 (A1)) (by omega)) rfl ?_
  rintro _ _ ⟨g2, l2, r2, rfl, hI2, hX2, x2, rfl, -, -⟩
  have hJ2 := t_J_ext hJ1 (hX2.1 69 75 rfl).1 (fun j => (hX2.1 70 j rfl).1)
  have f2 := t_F_X hX2
  have hR2 : t_R g2 r2 := t_L_gen hR f1 f2 (by decide +kernel) (by decide +kernel)
  have h72 := t_L_g7 h7 f1 f2 (by decide +kernel)
  have hT2 : t_TP g2 := t_TP_same hT f1 f2 (by decide +kernel) rfl rfl
  have hD2 := t_DR_same hD hX1 hX2 (by decide +kernel) (fun j hj => (hX2.1 70 j (t_nG (lo := 0) (hi := 1400) rfl (Nat.zero_le _) hj)).1) hm12.2
  have hN1 : (g1 69 46).toInt = -1 := t_N46a hN f1 (by decide +kernel)
  have hN2 : (g2 69 46).toInt = -1 := t_N46 hN f1 f2 (by decide +kernel)
  refine ev_alu f_L_law (nx := 736) rfl rfl rfl rfl ?_
  refine ev_jmp f_L_law (nx := 1621) rfl rfl rfl ?_
  exact kk _ _ _ _ ⟨⟨⟨⟨⟨hI2, hH, hJ2, by omega, by omega⟩, hR2, h72⟩, hT2⟩, hD2⟩, hN2⟩
set_option maxRecDepth 20000 in
theorem lc_15 {X : x_Ext} {c : Nat} {i : Int32} {sh : List (Nat ⊕ (Nat × Nat))} {gi : Nat → Nat → Int32} {gl : Nat → Nat → Int64} {gr : Nat → Nat → Value} {P : Option Value → x_G → Prop} (hL : X.1 ≤ 3072) (h0 : 0 ≤ i.toInt) (h1 : i.toInt + 6 ≤ (X.1 : Int)) (hW : t_LE c sh gi gl gr) (kk : ∀ sh2 gi2 gl2 gr2, t_LE (c + 1) sh2 gi2 gl2 gr2 → x_Ev X 1000 n_L_law 1621 [(3, .int i), (2, .ref 69), (1, .ref 0), (0, .retAddr 30)] [] (sh2, gi2, gl2, gr2) P) : x_Ev X 1000 n_L_law 739 [(3, .int i), (2, .ref 69), (1, .ref 0), (0, .retAddr 30)] [] (sh, gi, gl, gr) P := by
  obtain ⟨⟨⟨⟨⟨hI, hH, hJ, hz1, hz2⟩, hR, h7⟩, hT⟩, hD⟩, hN⟩ := hW
  have hk1 : (i + 1).toInt = i.toInt + 1 := t_ik rfl h0 (by omega) (by decide)
  obtain ⟨A1, hA1⟩ : ∃ v, X.2 (i + 1).toNatClampNeg = v := ⟨_, rfl⟩
  have hi6 : i.toInt ≤ 3066 := by omega
  have hm12 := hI.b (hI.wf.s (k := 0) rfl) (t_bdK rfl : t_bd 10 12 = some (0, 3))
  refine ev_loc f_L_law (nx := 740) rfl rfl rfl rfl ?_
  refine ev_loc f_L_law (nx := 741) rfl rfl rfl rfl ?_
  refine ev_loc f_L_law (nx := 742) rfl rfl rfl rfl ?_
  refine ev_ic f_L_law (nx := 743) (v := 1) rfl (by decide) rfl ?_
  refine ev_alu f_L_law (nx := 744) rfl rfl rfl rfl ?_
  refine ev_scx f_L_law (nx := 745) (w := A1) rfl (by rw [hk1]; omega) (by rw [hk1]; omega) hA1 rfl ?_
  refine ev_lwc f_L_law (nx := 748) rfl rfl rfl rfl rfl rfl rfl (x_Me.up (c_h_nextCart (d := 0) hI (A1)) (by omega)) rfl ?_
  rintro _ _ ⟨g1, l1, r1, rfl, hI1, hX1, x1, rfl, -, -⟩
  have hJ1 := t_J_ext hJ (hX1.1 69 75 rfl).1 (fun j => (hX1.1 70 j rfl).1)
  have f1 := t_F_X hX1
  refine ev_alu f_L_law (nx := 749) rfl rfl rfl rfl ?_
  refine ev_loc f_L_law (nx := 750) rfl rfl rfl rfl ?_
  refine ev_loc f_L_law (nx := 751) rfl rfl rfl rfl ?_
  refine ev_loc f_L_law (nx := 752) rfl rfl rfl rfl ?_
  refine ev_ic f_L_law (nx := 753) (v := 1) rfl (by decide) rfl ?_
  refine ev_alu f_L_law (nx := 754) rfl rfl rfl rfl ?_
  refine ev_scx f_L_law (nx := 755) (w := A1) rfl (by rw [hk1]; omega) (by rw [hk1]; omega) hA1 rfl ?_
  have hm0 : ((0 : Nat) : Int) ≤ (g1 69 75).toInt := (hI1.b (hI1.wf.s (k := 69) rfl) (t_bdK rfl : t_bd 11 75 = some (0, 3))).1
  have hm3 := (hI1.b (hI1.wf.s (k := 69) rfl) (t_bdK rfl : t_bd 11 75 = some (0, 3))).2
  refine ev_lwc f_L_law (nx := 758) rfl rfl rfl rfl rfl rfl rfl (x_Me.up (c_m_nextCart (d := 0) hI1 (A1)) (by omega)) rfl ?_
  rintro _ _ ⟨g2, l2, r2, rfl, hI2, hX2, x2, rfl, -, -⟩
  have hJ2 := t_J_ext hJ1 (hX2.1 69 75 rfl).1 (fun j => (hX2.1 70 j rfl).1)
  have f2 := t_F_X hX2
  have hR2 : t_R g2 r2 := t_L_gen hR f1 f2 (by decide +kernel) (by decide +kernel)
  have h72 := t_L_g7 h7 f1 f2 (by decide +kernel)
  have hT2 : t_TP g2 := t_TP_same hT f1 f2 (by decide +kernel) rfl rfl
  have hD2 := t_DR_same hD hX1 hX2 (by decide +kernel) (fun j hj => (hX2.1 70 j (t_nG (lo := 0) (hi := 1400) rfl (Nat.zero_le _) hj)).1) hm12.2
  have hN1 : (g1 69 46).toInt = -1 := t_N46a hN f1 (by decide +kernel)
  have hN2 : (g2 69 46).toInt = -1 := t_N46 hN f1 f2 (by decide +kernel)
  refine ev_alu f_L_law (nx := 759) rfl rfl rfl rfl ?_
  refine ev_jmp f_L_law (nx := 1621) rfl rfl rfl ?_
  exact kk _ _ _ _ ⟨⟨⟨⟨⟨hI2, hH, hJ2, by omega, by omega⟩, hR2, h72⟩, hT2⟩, hD2⟩, hN2⟩
set_option maxRecDepth 20000 in
theorem lc_16 {X : x_Ext} {c : Nat} {i : Int32} {sh : List (Nat ⊕ (Nat × Nat))} {gi : Nat → Nat → Int32} {gl : Nat → Nat → Int64} {gr : Nat → Nat → Value} {P : Option Value → x_G → Prop} (hL : X.1 ≤ 3072) (h0 : 0 ≤ i.toInt) (h1 : i.toInt + 6 ≤ (X.1 : Int)) (hW : t_LE c sh gi gl gr) (kk : ∀ sh2 gi2 gl2 gr2, t_LE (c + 1) sh2 gi2 gl2 gr2 → x_Ev X 1000 n_L_law 1621 [(3, .int i), (2, .ref 69), (1, .ref 0), (0, .retAddr 30)] [] (sh2, gi2, gl2, gr2) P) : x_Ev X 1000 n_L_law 762 [(3, .int i), (2, .ref 69), (1, .ref 0), (0, .retAddr 30)] [] (sh, gi, gl, gr) P := by
  obtain ⟨⟨⟨⟨⟨hI, hH, hJ, hz1, hz2⟩, hR, h7⟩, hT⟩, hD⟩, hN⟩ := hW
  have hk1 : (i + 1).toInt = i.toInt + 1 := t_ik rfl h0 (by omega) (by decide)
  obtain ⟨A1, hA1⟩ : ∃ v, X.2 (i + 1).toNatClampNeg = v := ⟨_, rfl⟩
  have hi6 : i.toInt ≤ 3066 := by omega
  have hm12 := hI.b (hI.wf.s (k := 0) rfl) (t_bdK rfl : t_bd 10 12 = some (0, 3))
  refine ev_loc f_L_law (nx := 763) rfl rfl rfl rfl ?_
  refine ev_loc f_L_law (nx := 764) rfl rfl rfl rfl ?_
  refine ev_loc f_L_law (nx := 765) rfl rfl rfl rfl ?_
  refine ev_ic f_L_law (nx := 766) (v := 1) rfl (by decide) rfl ?_
  refine ev_alu f_L_law (nx := 767) rfl rfl rfl rfl ?_
  refine ev_scx f_L_law (nx := 768) (w := A1) rfl (by rw [hk1]; omega) (by rw [hk1]; omega) hA1 rfl ?_
  refine ev_lwc f_L_law (nx := 771) rfl rfl rfl rfl rfl rfl rfl (x_Me.up (c_h_sound (d := 0) hI (A1)) (by omega)) rfl ?_
  rintro _ _ ⟨g1, l1, r1, rfl, hI1, hX1, x1, rfl⟩
  have hJ1 := t_J_ext hJ (hX1.1 69 75 rfl).1 (fun j => (hX1.1 70 j rfl).1)
  have f1 := t_F_X hX1
  refine ev_pop2 f_L_law (nx := 772) rfl rfl ?_
  refine ev_loc f_L_law (nx := 773) rfl rfl rfl rfl ?_
  refine ev_loc f_L_law (nx := 774) rfl rfl rfl rfl ?_
  refine ev_loc f_L_law (nx := 775) rfl rfl rfl rfl ?_
  refine ev_ic f_L_law (nx := 776) (v := 1) rfl (by decide) rfl ?_
  refine ev_alu f_L_law (nx := 777) rfl rfl rfl rfl ?_
  refine ev_scx f_L_law (nx := 778) (w := A1) rfl (by rw [hk1]; omega) (by rw [hk1]; omega) hA1 rfl ?_
  have hm0 : ((0 : Nat) : Int) ≤ (g1 69 75).toInt := (hI1.b (hI1.wf.s (k := 69) rfl) (t_bdK rfl : t_bd 11 75 = some (0, 3))).1
  have hm3 := (hI1.b (hI1.wf.s (k := 69) rfl) (t_bdK rfl : t_bd 11 75 = some (0, 3))).2
  refine ev_lwc f_L_law (nx := 781) rfl rfl rfl rfl rfl rfl rfl (x_Me.up (c_m_sound (d := 0) hI1 (A1)) (by omega)) rfl ?_
  rintro _ _ ⟨g2, l2, r2, rfl, hI2, hX2, x2, rfl⟩
  have hJ2 := t_J_ext hJ1 (hX2.1 69 75 rfl).1 (fun j => (hX2.1 70 j rfl).1)
  have f2 := t_F_X hX2
  have hR2 : t_R g2 r2 := t_L_gen hR f1 f2 (by decide +kernel) (by decide +kernel)
  have h72 := t_L_g7 h7 f1 f2 (by decide +kernel)
  have hT2 : t_TP g2 := t_TP_same hT f1 f2 (by decide +kernel) rfl rfl
  have hD2 := t_DR_same hD hX1 hX2 (by decide +kernel) (fun j hj => (hX2.1 70 j (t_nG (lo := 0) (hi := 1400) rfl (Nat.zero_le _) hj)).1) hm12.2
  have hN1 : (g1 69 46).toInt = -1 := t_N46a hN f1 (by decide +kernel)
  have hN2 : (g2 69 46).toInt = -1 := t_N46 hN f1 f2 (by decide +kernel)
  refine ev_pop2 f_L_law (nx := 782) rfl rfl ?_
  refine ev_jmp f_L_law (nx := 1621) rfl rfl rfl ?_
  exact kk _ _ _ _ ⟨⟨⟨⟨⟨hI2, hH, hJ2, by omega, by omega⟩, hR2, h72⟩, hT2⟩, hD2⟩, hN2⟩
