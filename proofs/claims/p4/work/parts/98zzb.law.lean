/-! ===== printed by law.py: the law's cases ===== -/
set_option maxRecDepth 20000 in
theorem lc_17 {X : x_Ext} {c : Nat} {i : Int32} {sh : List (Nat ⊕ (Nat × Nat))} {gi : Nat → Nat → Int32} {gl : Nat → Nat → Int64} {gr : Nat → Nat → Value} {P : Option Value → x_G → Prop} (hL : X.1 ≤ 3072) (h0 : 0 ≤ i.toInt) (h1 : i.toInt + 6 ≤ (X.1 : Int)) (hW : t_LT9 c sh gi gl gr) (kk : ∀ sh2 gi2 gl2 gr2, t_LT9 (c + 1) sh2 gi2 gl2 gr2 → x_Ev X 1000 n_L_law 1622 [(3, .int i), (2, .ref 69), (1, .ref 0), (0, .retAddr 30)] [] (sh2, gi2, gl2, gr2) P) : x_Ev X 1000 n_L_law 786 [(3, .int i), (2, .ref 69), (1, .ref 0), (0, .retAddr 30)] [] (sh, gi, gl, gr) P := by
  obtain ⟨⟨⟨⟨⟨hI, hH, hJ, hz1, hz2⟩, hR, h7⟩, hT⟩, hD⟩, hN⟩ := hW
  obtain ⟨hN, hV, hB⟩ := hN
  have hk1 : (i + 1).toInt = i.toInt + 1 := t_ik rfl h0 (by omega) (by decide)
  obtain ⟨A1, hA1⟩ : ∃ v, X.2 (i + 1).toNatClampNeg = v := ⟨_, rfl⟩
  have hi6 : i.toInt ≤ 3066 := by omega
  have hm12 := hI.b (hI.wf.s (k := 0) rfl) (t_bdK rfl : t_bd 10 12 = some (0, 3))
  refine ev_loc f_L_law (nx := 787) rfl rfl rfl rfl ?_
  refine ev_loc f_L_law (nx := 788) rfl rfl rfl rfl ?_
  refine ev_loc f_L_law (nx := 789) rfl rfl rfl rfl ?_
  refine ev_ic f_L_law (nx := 790) (v := 1) rfl (by decide) rfl ?_
  refine ev_alu f_L_law (nx := 791) rfl rfl rfl rfl ?_
  refine ev_scx f_L_law (nx := 792) (w := A1) rfl (by rw [hk1]; omega) (by rw [hk1]; omega) hA1 rfl ?_
  refine ev_lwc f_L_law (nx := 795) rfl rfl rfl rfl rfl rfl rfl (x_Me.up (c_h_heard (d := 0) hI (A1)) (by omega)) rfl ?_
  rintro _ _ ⟨g1, l1, r1, rfl, hI1, hX1, x1, rfl⟩
  have hJ1 := t_J_ext hJ (hX1.1 69 75 rfl).1 (fun j => (hX1.1 70 j rfl).1)
  have f1 := t_F_X hX1
  refine ev_pop2 f_L_law (nx := 796) rfl rfl ?_
  refine ev_loc f_L_law (nx := 797) rfl rfl rfl rfl ?_
  refine ev_loc f_L_law (nx := 798) rfl rfl rfl rfl ?_
  refine ev_loc f_L_law (nx := 799) rfl rfl rfl rfl ?_
  refine ev_ic f_L_law (nx := 800) (v := 1) rfl (by decide) rfl ?_
  refine ev_alu f_L_law (nx := 801) rfl rfl rfl rfl ?_
  refine ev_scx f_L_law (nx := 802) (w := A1) rfl (by rw [hk1]; omega) (by rw [hk1]; omega) hA1 rfl ?_
  have hm0 : ((0 : Nat) : Int) ≤ (g1 69 75).toInt := (hI1.b (hI1.wf.s (k := 69) rfl) (t_bdK rfl : t_bd 11 75 = some (0, 3))).1
  have hm3 := (hI1.b (hI1.wf.s (k := 69) rfl) (t_bdK rfl : t_bd 11 75 = some (0, 3))).2
  refine ev_lwc f_L_law (nx := 805) rfl rfl rfl rfl rfl rfl rfl (x_Me.up (c_m_heard (d := 0) hI1 (A1)) (by omega)) rfl ?_
  rintro _ _ ⟨g2, l2, r2, rfl, hI2, hX2, x2, rfl⟩
  have hJ2 := t_J_ext hJ1 (hX2.1 69 75 rfl).1 (fun j => (hX2.1 70 j rfl).1)
  have f2 := t_F_X hX2
  have hR2 : t_R g2 r2 := t_L_gen hR f1 f2 (by decide +kernel) (by decide +kernel)
  have h72 := t_L_g7 h7 f1 f2 (by decide +kernel)
  have hT2 : t_TP g2 := t_TP_same hT f1 f2 (by decide +kernel) rfl rfl
  have hD2 := t_DR_same hD hX1 hX2 (by decide +kernel) (fun j hj => (hX2.1 70 j (t_nG (lo := 0) (hi := 1400) rfl (Nat.zero_le _) hj)).1) hm12.2
  have hN1 : (g1 69 46).toInt = -1 := t_N46a hN f1 (by decide +kernel)
  have hN2 : (g2 69 46).toInt = -1 := t_N46 hN f1 f2 (by decide +kernel)
  have hV2 := t_RZ_same hV hX1 hX2 (by decide +kernel) (fun j hj => (hX2.1 70 j (t_nG (lo := 0) (hi := 1400) rfl (Nat.zero_le _) hj)).1) hm12.2
  have hB2 : t_TB l2 := t_TB_same hB f1 f2 (by decide +kernel)
  refine ev_pop2 f_L_law (nx := 806) rfl rfl ?_
  refine ev_jmp f_L_law (nx := 1622) rfl rfl rfl ?_
  exact kk _ _ _ _ ⟨⟨⟨⟨⟨hI2, hH, hJ2, by omega, by omega⟩, hR2, h72⟩, hT2⟩, hD2⟩, ⟨hN2, hV2, hB2⟩⟩
set_option maxRecDepth 20000 in
theorem lc_18 {X : x_Ext} {c : Nat} {i : Int32} {sh : List (Nat ⊕ (Nat × Nat))} {gi : Nat → Nat → Int32} {gl : Nat → Nat → Int64} {gr : Nat → Nat → Value} {P : Option Value → x_G → Prop} (hL : X.1 ≤ 3072) (h0 : 0 ≤ i.toInt) (h1 : i.toInt + 6 ≤ (X.1 : Int)) (hW : t_LT9 c sh gi gl gr) (kk : ∀ sh2 gi2 gl2 gr2, t_LT9 (c + 1) sh2 gi2 gl2 gr2 → x_Ev X 1000 n_L_law 1622 [(3, .int i), (2, .ref 69), (1, .ref 0), (0, .retAddr 30)] [] (sh2, gi2, gl2, gr2) P) : x_Ev X 1000 n_L_law 809 [(3, .int i), (2, .ref 69), (1, .ref 0), (0, .retAddr 30)] [] (sh, gi, gl, gr) P := by
  obtain ⟨⟨⟨⟨⟨hI, hH, hJ, hz1, hz2⟩, hR, h7⟩, hT⟩, hD⟩, hN⟩ := hW
  obtain ⟨hN, hV, hB⟩ := hN
  have hk1 : (i + 1).toInt = i.toInt + 1 := t_ik rfl h0 (by omega) (by decide)
  obtain ⟨A1, hA1⟩ : ∃ v, X.2 (i + 1).toNatClampNeg = v := ⟨_, rfl⟩
  have hk2 : (i + 2).toInt = i.toInt + 2 := t_ik rfl h0 (by omega) (by decide)
  obtain ⟨A2, hA2⟩ : ∃ v, X.2 (i + 2).toNatClampNeg = v := ⟨_, rfl⟩
  have hk3 : (i + 3).toInt = i.toInt + 3 := t_ik rfl h0 (by omega) (by decide)
  obtain ⟨A3, hA3⟩ : ∃ v, X.2 (i + 3).toNatClampNeg = v := ⟨_, rfl⟩
  have hi6 : i.toInt ≤ 3066 := by omega
  have hm12 := hI.b (hI.wf.s (k := 0) rfl) (t_bdK rfl : t_bd 10 12 = some (0, 3))
  refine ev_loc f_L_law (nx := 810) rfl rfl rfl rfl ?_
  refine ev_loc f_L_law (nx := 811) rfl rfl rfl rfl ?_
  refine ev_loc f_L_law (nx := 812) rfl rfl rfl rfl ?_
  refine ev_ic f_L_law (nx := 813) (v := 1) rfl (by decide) rfl ?_
  refine ev_alu f_L_law (nx := 814) rfl rfl rfl rfl ?_
  refine ev_scx f_L_law (nx := 815) (w := A1) rfl (by rw [hk1]; omega) (by rw [hk1]; omega) hA1 rfl ?_
  refine ev_loc f_L_law (nx := 816) rfl rfl rfl rfl ?_
  refine ev_loc f_L_law (nx := 817) rfl rfl rfl rfl ?_
  refine ev_ic f_L_law (nx := 818) (v := 2) rfl (by decide) rfl ?_
  refine ev_alu f_L_law (nx := 819) rfl rfl rfl rfl ?_
  refine ev_scx f_L_law (nx := 820) (w := A2) rfl (by rw [hk2]; omega) (by rw [hk2]; omega) hA2 rfl ?_
  refine ev_loc f_L_law (nx := 821) rfl rfl rfl rfl ?_
  refine ev_loc f_L_law (nx := 822) rfl rfl rfl rfl ?_
  refine ev_ic f_L_law (nx := 823) (v := 3) rfl (by decide) rfl ?_
  refine ev_alu f_L_law (nx := 824) rfl rfl rfl rfl ?_
  refine ev_scx f_L_law (nx := 825) (w := A3) rfl (by rw [hk3]; omega) (by rw [hk3]; omega) hA3 rfl ?_
  refine ev_lwc f_L_law (nx := 828) rfl rfl rfl rfl rfl rfl rfl (x_Me.up (c_h_together (d := 0) hI (A1) (A2) (A3)) (by omega)) rfl ?_
  rintro _ _ ⟨g1, l1, r1, rfl, hI1, hX1, x1, rfl⟩
  have hJ1 := t_J_ext hJ (hX1.1 69 75 rfl).1 (fun j => (hX1.1 70 j rfl).1)
  have f1 := t_F_X hX1
  refine ev_pop2 f_L_law (nx := 829) rfl rfl ?_
  refine ev_loc f_L_law (nx := 830) rfl rfl rfl rfl ?_
  refine ev_loc f_L_law (nx := 831) rfl rfl rfl rfl ?_
  refine ev_loc f_L_law (nx := 832) rfl rfl rfl rfl ?_
  refine ev_ic f_L_law (nx := 833) (v := 1) rfl (by decide) rfl ?_
  refine ev_alu f_L_law (nx := 834) rfl rfl rfl rfl ?_
  refine ev_scx f_L_law (nx := 835) (w := A1) rfl (by rw [hk1]; omega) (by rw [hk1]; omega) hA1 rfl ?_
  refine ev_loc f_L_law (nx := 836) rfl rfl rfl rfl ?_
  refine ev_loc f_L_law (nx := 837) rfl rfl rfl rfl ?_
  refine ev_ic f_L_law (nx := 838) (v := 2) rfl (by decide) rfl ?_
  refine ev_alu f_L_law (nx := 839) rfl rfl rfl rfl ?_
  refine ev_scx f_L_law (nx := 840) (w := A2) rfl (by rw [hk2]; omega) (by rw [hk2]; omega) hA2 rfl ?_
  refine ev_loc f_L_law (nx := 841) rfl rfl rfl rfl ?_
  refine ev_loc f_L_law (nx := 842) rfl rfl rfl rfl ?_
  refine ev_ic f_L_law (nx := 843) (v := 3) rfl (by decide) rfl ?_
  refine ev_alu f_L_law (nx := 844) rfl rfl rfl rfl ?_
  refine ev_scx f_L_law (nx := 845) (w := A3) rfl (by rw [hk3]; omega) (by rw [hk3]; omega) hA3 rfl ?_
  have hm0 : ((0 : Nat) : Int) ≤ (g1 69 75).toInt := (hI1.b (hI1.wf.s (k := 69) rfl) (t_bdK rfl : t_bd 11 75 = some (0, 3))).1
  have hm3 := (hI1.b (hI1.wf.s (k := 69) rfl) (t_bdK rfl : t_bd 11 75 = some (0, 3))).2
  refine ev_lwc f_L_law (nx := 848) rfl rfl rfl rfl rfl rfl rfl (x_Me.up (c_m_together (d := 0) hI1 (A1) (A2) (A3)) (by omega)) rfl ?_
  rintro _ _ ⟨g2, l2, r2, rfl, hI2, hX2, x2, rfl⟩
  have hJ2 := t_J_ext hJ1 (hX2.1 69 75 rfl).1 (fun j => (hX2.1 70 j rfl).1)
  have f2 := t_F_X hX2
  have hR2 : t_R g2 r2 := t_L_gen hR f1 f2 (by decide +kernel) (by decide +kernel)
  have h72 := t_L_g7 h7 f1 f2 (by decide +kernel)
  have hT2 : t_TP g2 := t_TP_same hT f1 f2 (by decide +kernel) rfl rfl
  have hD2 := t_DR_same hD hX1 hX2 (by decide +kernel) (fun j hj => (hX2.1 70 j (t_nG (lo := 0) (hi := 1400) rfl (Nat.zero_le _) hj)).1) hm12.2
  have hN1 : (g1 69 46).toInt = -1 := t_N46a hN f1 (by decide +kernel)
  have hN2 : (g2 69 46).toInt = -1 := t_N46 hN f1 f2 (by decide +kernel)
  have hV2 := t_RZ_same hV hX1 hX2 (by decide +kernel) (fun j hj => (hX2.1 70 j (t_nG (lo := 0) (hi := 1400) rfl (Nat.zero_le _) hj)).1) hm12.2
  have hB2 : t_TB l2 := t_TB_same hB f1 f2 (by decide +kernel)
  refine ev_pop2 f_L_law (nx := 849) rfl rfl ?_
  refine ev_jmp f_L_law (nx := 1622) rfl rfl rfl ?_
  exact kk _ _ _ _ ⟨⟨⟨⟨⟨hI2, hH, hJ2, by omega, by omega⟩, hR2, h72⟩, hT2⟩, hD2⟩, ⟨hN2, hV2, hB2⟩⟩
set_option maxRecDepth 20000 in
theorem lc_19 {X : x_Ext} {c : Nat} {i : Int32} {sh : List (Nat ⊕ (Nat × Nat))} {gi : Nat → Nat → Int32} {gl : Nat → Nat → Int64} {gr : Nat → Nat → Value} {P : Option Value → x_G → Prop} (hL : X.1 ≤ 3072) (h0 : 0 ≤ i.toInt) (h1 : i.toInt + 6 ≤ (X.1 : Int)) (hW : t_LT9 c sh gi gl gr) (kk : ∀ sh2 gi2 gl2 gr2, t_LT9 (c + 1) sh2 gi2 gl2 gr2 → x_Ev X 1000 n_L_law 1622 [(3, .int i), (2, .ref 69), (1, .ref 0), (0, .retAddr 30)] [] (sh2, gi2, gl2, gr2) P) : x_Ev X 1000 n_L_law 852 [(3, .int i), (2, .ref 69), (1, .ref 0), (0, .retAddr 30)] [] (sh, gi, gl, gr) P := by
  obtain ⟨⟨⟨⟨⟨hI, hH, hJ, hz1, hz2⟩, hR, h7⟩, hT⟩, hD⟩, hN⟩ := hW
  obtain ⟨hN, hV, hB⟩ := hN
  have hk1 : (i + 1).toInt = i.toInt + 1 := t_ik rfl h0 (by omega) (by decide)
  obtain ⟨A1, hA1⟩ : ∃ v, X.2 (i + 1).toNatClampNeg = v := ⟨_, rfl⟩
  have hi6 : i.toInt ≤ 3066 := by omega
  have hm12 := hI.b (hI.wf.s (k := 0) rfl) (t_bdK rfl : t_bd 10 12 = some (0, 3))
  refine ev_loc f_L_law (nx := 853) rfl rfl rfl rfl ?_
  refine ev_loc f_L_law (nx := 854) rfl rfl rfl rfl ?_
  refine ev_loc f_L_law (nx := 855) rfl rfl rfl rfl ?_
  refine ev_ic f_L_law (nx := 856) (v := 1) rfl (by decide) rfl ?_
  refine ev_alu f_L_law (nx := 857) rfl rfl rfl rfl ?_
  refine ev_scx f_L_law (nx := 858) (w := A1) rfl (by rw [hk1]; omega) (by rw [hk1]; omega) hA1 rfl ?_
  refine ev_lwc f_L_law (nx := 861) rfl rfl rfl rfl rfl rfl rfl (x_Me.up (c_h_lasts (d := 0) hI (A1)) (by omega)) rfl ?_
  rintro _ _ ⟨g1, l1, r1, rfl, hI1, hX1, x1, rfl, -, -⟩
  have hJ1 := t_J_ext hJ (hX1.1 69 75 rfl).1 (fun j => (hX1.1 70 j rfl).1)
  have f1 := t_F_X hX1
  refine ev_alu f_L_law (nx := 862) rfl rfl rfl rfl ?_
  refine ev_loc f_L_law (nx := 863) rfl rfl rfl rfl ?_
  refine ev_loc f_L_law (nx := 864) rfl rfl rfl rfl ?_
  refine ev_loc f_L_law (nx := 865) rfl rfl rfl rfl ?_
  refine ev_ic f_L_law (nx := 866) (v := 1) rfl (by decide) rfl ?_
  refine ev_alu f_L_law (nx := 867) rfl rfl rfl rfl ?_
  refine ev_scx f_L_law (nx := 868) (w := A1) rfl (by rw [hk1]; omega) (by rw [hk1]; omega) hA1 rfl ?_
  have hm0 : ((0 : Nat) : Int) ≤ (g1 69 75).toInt := (hI1.b (hI1.wf.s (k := 69) rfl) (t_bdK rfl : t_bd 11 75 = some (0, 3))).1
  have hm3 := (hI1.b (hI1.wf.s (k := 69) rfl) (t_bdK rfl : t_bd 11 75 = some (0, 3))).2
  refine ev_lwc f_L_law (nx := 871) rfl rfl rfl rfl rfl rfl rfl (x_Me.up (c_m_lasts (d := 0) hI1 (A1)) (by omega)) rfl ?_
  rintro _ _ ⟨g2, l2, r2, rfl, hI2, hX2, x2, rfl, -, -⟩
  have hJ2 := t_J_ext hJ1 (hX2.1 69 75 rfl).1 (fun j => (hX2.1 70 j rfl).1)
  have f2 := t_F_X hX2
  have hR2 : t_R g2 r2 := t_L_gen hR f1 f2 (by decide +kernel) (by decide +kernel)
  have h72 := t_L_g7 h7 f1 f2 (by decide +kernel)
  have hT2 : t_TP g2 := t_TP_same hT f1 f2 (by decide +kernel) rfl rfl
  have hD2 := t_DR_same hD hX1 hX2 (by decide +kernel) (fun j hj => (hX2.1 70 j (t_nG (lo := 0) (hi := 1400) rfl (Nat.zero_le _) hj)).1) hm12.2
  have hN1 : (g1 69 46).toInt = -1 := t_N46a hN f1 (by decide +kernel)
  have hN2 : (g2 69 46).toInt = -1 := t_N46 hN f1 f2 (by decide +kernel)
  have hV2 := t_RZ_same hV hX1 hX2 (by decide +kernel) (fun j hj => (hX2.1 70 j (t_nG (lo := 0) (hi := 1400) rfl (Nat.zero_le _) hj)).1) hm12.2
  have hB2 : t_TB l2 := t_TB_same hB f1 f2 (by decide +kernel)
  refine ev_alu f_L_law (nx := 872) rfl rfl rfl rfl ?_
  refine ev_jmp f_L_law (nx := 1622) rfl rfl rfl ?_
  exact kk _ _ _ _ ⟨⟨⟨⟨⟨hI2, hH, hJ2, by omega, by omega⟩, hR2, h72⟩, hT2⟩, hD2⟩, ⟨hN2, hV2, hB2⟩⟩
set_option maxRecDepth 20000 in
theorem lc_20 {X : x_Ext} {c : Nat} {i : Int32} {sh : List (Nat ⊕ (Nat × Nat))} {gi : Nat → Nat → Int32} {gl : Nat → Nat → Int64} {gr : Nat → Nat → Value} {P : Option Value → x_G → Prop} (hL : X.1 ≤ 3072) (h0 : 0 ≤ i.toInt) (h1 : i.toInt + 6 ≤ (X.1 : Int)) (hW : t_LT9 c sh gi gl gr) (kk : ∀ sh2 gi2 gl2 gr2, t_LT9 (c + 1) sh2 gi2 gl2 gr2 → x_Ev X 1000 n_L_law 1622 [(3, .int i), (2, .ref 69), (1, .ref 0), (0, .retAddr 30)] [] (sh2, gi2, gl2, gr2) P) : x_Ev X 1000 n_L_law 875 [(3, .int i), (2, .ref 69), (1, .ref 0), (0, .retAddr 30)] [] (sh, gi, gl, gr) P := by
  obtain ⟨⟨⟨⟨⟨hI, hH, hJ, hz1, hz2⟩, hR, h7⟩, hT⟩, hD⟩, hN⟩ := hW
  obtain ⟨hN, hV, hB⟩ := hN
  have hk1 : (i + 1).toInt = i.toInt + 1 := t_ik rfl h0 (by omega) (by decide)
  obtain ⟨A1, hA1⟩ : ∃ v, X.2 (i + 1).toNatClampNeg = v := ⟨_, rfl⟩
  have hk2 : (i + 2).toInt = i.toInt + 2 := t_ik rfl h0 (by omega) (by decide)
  obtain ⟨A2, hA2⟩ : ∃ v, X.2 (i + 2).toNatClampNeg = v := ⟨_, rfl⟩
  have hi6 : i.toInt ≤ 3066 := by omega
  have hm12 := hI.b (hI.wf.s (k := 0) rfl) (t_bdK rfl : t_bd 10 12 = some (0, 3))
  refine ev_loc f_L_law (nx := 876) rfl rfl rfl rfl ?_
  refine ev_loc f_L_law (nx := 877) rfl rfl rfl rfl ?_
  refine ev_loc f_L_law (nx := 878) rfl rfl rfl rfl ?_
  refine ev_ic f_L_law (nx := 879) (v := 1) rfl (by decide) rfl ?_
  refine ev_alu f_L_law (nx := 880) rfl rfl rfl rfl ?_
  refine ev_scx f_L_law (nx := 881) (w := A1) rfl (by rw [hk1]; omega) (by rw [hk1]; omega) hA1 rfl ?_
  refine ev_loc f_L_law (nx := 882) rfl rfl rfl rfl ?_
  refine ev_loc f_L_law (nx := 883) rfl rfl rfl rfl ?_
  refine ev_ic f_L_law (nx := 884) (v := 2) rfl (by decide) rfl ?_
  refine ev_alu f_L_law (nx := 885) rfl rfl rfl rfl ?_
  refine ev_scx f_L_law (nx := 886) (w := A2) rfl (by rw [hk2]; omega) (by rw [hk2]; omega) hA2 rfl ?_
  refine ev_lwc f_L_law (nx := 889) rfl rfl rfl rfl rfl rfl rfl (x_Me.up (c_h_far (d := 0) hI (A1) (A2)) (by omega)) rfl ?_
  rintro _ _ ⟨g1, l1, r1, rfl, hI1, hX1, x1, rfl, -, -⟩
  have hJ1 := t_J_ext hJ (hX1.1 69 75 rfl).1 (fun j => (hX1.1 70 j rfl).1)
  have f1 := t_F_X hX1
  refine ev_alu f_L_law (nx := 890) rfl rfl rfl rfl ?_
  refine ev_loc f_L_law (nx := 891) rfl rfl rfl rfl ?_
  refine ev_loc f_L_law (nx := 892) rfl rfl rfl rfl ?_
  refine ev_loc f_L_law (nx := 893) rfl rfl rfl rfl ?_
  refine ev_ic f_L_law (nx := 894) (v := 1) rfl (by decide) rfl ?_
  refine ev_alu f_L_law (nx := 895) rfl rfl rfl rfl ?_
  refine ev_scx f_L_law (nx := 896) (w := A1) rfl (by rw [hk1]; omega) (by rw [hk1]; omega) hA1 rfl ?_
  refine ev_loc f_L_law (nx := 897) rfl rfl rfl rfl ?_
  refine ev_loc f_L_law (nx := 898) rfl rfl rfl rfl ?_
  refine ev_ic f_L_law (nx := 899) (v := 2) rfl (by decide) rfl ?_
  refine ev_alu f_L_law (nx := 900) rfl rfl rfl rfl ?_
  refine ev_scx f_L_law (nx := 901) (w := A2) rfl (by rw [hk2]; omega) (by rw [hk2]; omega) hA2 rfl ?_
  have hm0 : ((0 : Nat) : Int) ≤ (g1 69 75).toInt := (hI1.b (hI1.wf.s (k := 69) rfl) (t_bdK rfl : t_bd 11 75 = some (0, 3))).1
  have hm3 := (hI1.b (hI1.wf.s (k := 69) rfl) (t_bdK rfl : t_bd 11 75 = some (0, 3))).2
  refine ev_lwc f_L_law (nx := 904) rfl rfl rfl rfl rfl rfl rfl (x_Me.up (c_m_far (d := 0) hI1 (A1) (A2)) (by omega)) rfl ?_
  rintro _ _ ⟨g2, l2, r2, rfl, hI2, hX2, x2, rfl, -, -⟩
  have hJ2 := t_J_ext hJ1 (hX2.1 69 75 rfl).1 (fun j => (hX2.1 70 j rfl).1)
  have f2 := t_F_X hX2
  have hR2 : t_R g2 r2 := t_L_gen hR f1 f2 (by decide +kernel) (by decide +kernel)
  have h72 := t_L_g7 h7 f1 f2 (by decide +kernel)
  have hT2 : t_TP g2 := t_TP_same hT f1 f2 (by decide +kernel) rfl rfl
  have hD2 := t_DR_same hD hX1 hX2 (by decide +kernel) (fun j hj => (hX2.1 70 j (t_nG (lo := 0) (hi := 1400) rfl (Nat.zero_le _) hj)).1) hm12.2
  have hN1 : (g1 69 46).toInt = -1 := t_N46a hN f1 (by decide +kernel)
  have hN2 : (g2 69 46).toInt = -1 := t_N46 hN f1 f2 (by decide +kernel)
  have hV2 := t_RZ_same hV hX1 hX2 (by decide +kernel) (fun j hj => (hX2.1 70 j (t_nG (lo := 0) (hi := 1400) rfl (Nat.zero_le _) hj)).1) hm12.2
  have hB2 : t_TB l2 := t_TB_same hB f1 f2 (by decide +kernel)
  refine ev_alu f_L_law (nx := 905) rfl rfl rfl rfl ?_
  refine ev_jmp f_L_law (nx := 1622) rfl rfl rfl ?_
  exact kk _ _ _ _ ⟨⟨⟨⟨⟨hI2, hH, hJ2, by omega, by omega⟩, hR2, h72⟩, hT2⟩, hD2⟩, ⟨hN2, hV2, hB2⟩⟩
set_option maxRecDepth 20000 in
theorem lc_21 {X : x_Ext} {c : Nat} {i : Int32} {sh : List (Nat ⊕ (Nat × Nat))} {gi : Nat → Nat → Int32} {gl : Nat → Nat → Int64} {gr : Nat → Nat → Value} {P : Option Value → x_G → Prop} (hL : X.1 ≤ 3072) (h0 : 0 ≤ i.toInt) (h1 : i.toInt + 6 ≤ (X.1 : Int)) (hW : t_LT9 c sh gi gl gr) (kk : ∀ sh2 gi2 gl2 gr2, t_LT9 (c + 1) sh2 gi2 gl2 gr2 → x_Ev X 1000 n_L_law 1622 [(3, .int i), (2, .ref 69), (1, .ref 0), (0, .retAddr 30)] [] (sh2, gi2, gl2, gr2) P) : x_Ev X 1000 n_L_law 908 [(3, .int i), (2, .ref 69), (1, .ref 0), (0, .retAddr 30)] [] (sh, gi, gl, gr) P := by
  obtain ⟨⟨⟨⟨⟨hI, hH, hJ, hz1, hz2⟩, hR, h7⟩, hT⟩, hD⟩, hN⟩ := hW
  obtain ⟨hN, hV, hB⟩ := hN
  have hk1 : (i + 1).toInt = i.toInt + 1 := t_ik rfl h0 (by omega) (by decide)
  obtain ⟨A1, hA1⟩ : ∃ v, X.2 (i + 1).toNatClampNeg = v := ⟨_, rfl⟩
  have hk2 : (i + 2).toInt = i.toInt + 2 := t_ik rfl h0 (by omega) (by decide)
  obtain ⟨A2, hA2⟩ : ∃ v, X.2 (i + 2).toNatClampNeg = v := ⟨_, rfl⟩
  have hi6 : i.toInt ≤ 3066 := by omega
  have hm12 := hI.b (hI.wf.s (k := 0) rfl) (t_bdK rfl : t_bd 10 12 = some (0, 3))
  refine ev_loc f_L_law (nx := 909) rfl rfl rfl rfl ?_
  refine ev_loc f_L_law (nx := 910) rfl rfl rfl rfl ?_
  refine ev_loc f_L_law (nx := 911) rfl rfl rfl rfl ?_
  refine ev_ic f_L_law (nx := 912) (v := 1) rfl (by decide) rfl ?_
  refine ev_alu f_L_law (nx := 913) rfl rfl rfl rfl ?_
  refine ev_scx f_L_law (nx := 914) (w := A1) rfl (by rw [hk1]; omega) (by rw [hk1]; omega) hA1 rfl ?_
  refine ev_alu f_L_law (nx := 915) rfl rfl rfl rfl ?_
  refine ev_bp f_L_law (nx := 917) (v := 32) rfl (by decide) rfl ?_
  refine ev_alu f_L_law (nx := 918) rfl rfl rfl rfl ?_
  refine ev_loc f_L_law (nx := 919) rfl rfl rfl rfl ?_
  refine ev_loc f_L_law (nx := 920) rfl rfl rfl rfl ?_
  refine ev_ic f_L_law (nx := 921) (v := 2) rfl (by decide) rfl ?_
  refine ev_alu f_L_law (nx := 922) rfl rfl rfl rfl ?_
  refine ev_scx f_L_law (nx := 923) (w := A2) rfl (by rw [hk2]; omega) (by rw [hk2]; omega) hA2 rfl ?_
  refine ev_alu f_L_law (nx := 924) rfl rfl rfl rfl ?_
  refine ev_ldL f_L_law (nx := 927) (v := 4294967295) rfl (by decide) rfl ?_
  refine ev_alu f_L_law (nx := 928) rfl rfl rfl rfl ?_
  refine ev_alu f_L_law (nx := 929) rfl rfl rfl rfl ?_
  refine ev_lwc f_L_law (nx := 932) rfl rfl rfl rfl rfl rfl rfl (x_Me.up (c_h_readings (d := 0) hI _) (by omega)) rfl ?_
  rintro _ _ ⟨g1, l1, r1, rfl, hI1, hX1, x1, rfl, -, -⟩
  have hJ1 := t_J_ext hJ (hX1.1 69 75 rfl).1 (fun j => (hX1.1 70 j rfl).1)
  have f1 := t_F_X hX1
  refine ev_alu f_L_law (nx := 933) rfl rfl rfl rfl ?_
  refine ev_loc f_L_law (nx := 934) rfl rfl rfl rfl ?_
  refine ev_loc f_L_law (nx := 935) rfl rfl rfl rfl ?_
  refine ev_loc f_L_law (nx := 936) rfl rfl rfl rfl ?_
  refine ev_ic f_L_law (nx := 937) (v := 1) rfl (by decide) rfl ?_
  refine ev_alu f_L_law (nx := 938) rfl rfl rfl rfl ?_
  refine ev_scx f_L_law (nx := 939) (w := A1) rfl (by rw [hk1]; omega) (by rw [hk1]; omega) hA1 rfl ?_
  refine ev_alu f_L_law (nx := 940) rfl rfl rfl rfl ?_
  refine ev_bp f_L_law (nx := 942) (v := 32) rfl (by decide) rfl ?_
  refine ev_alu f_L_law (nx := 943) rfl rfl rfl rfl ?_
  refine ev_loc f_L_law (nx := 944) rfl rfl rfl rfl ?_
  refine ev_loc f_L_law (nx := 945) rfl rfl rfl rfl ?_
  refine ev_ic f_L_law (nx := 946) (v := 2) rfl (by decide) rfl ?_
  refine ev_alu f_L_law (nx := 947) rfl rfl rfl rfl ?_
  refine ev_scx f_L_law (nx := 948) (w := A2) rfl (by rw [hk2]; omega) (by rw [hk2]; omega) hA2 rfl ?_
  refine ev_alu f_L_law (nx := 949) rfl rfl rfl rfl ?_
  refine ev_ldL f_L_law (nx := 952) (v := 4294967295) rfl (by decide) rfl ?_
  refine ev_alu f_L_law (nx := 953) rfl rfl rfl rfl ?_
  refine ev_alu f_L_law (nx := 954) rfl rfl rfl rfl ?_
  have hm0 : ((0 : Nat) : Int) ≤ (g1 69 75).toInt := (hI1.b (hI1.wf.s (k := 69) rfl) (t_bdK rfl : t_bd 11 75 = some (0, 3))).1
  have hm3 := (hI1.b (hI1.wf.s (k := 69) rfl) (t_bdK rfl : t_bd 11 75 = some (0, 3))).2
  refine ev_lwc f_L_law (nx := 957) rfl rfl rfl rfl rfl rfl rfl (x_Me.up (c_m_readings (d := 0) hI1 _) (by omega)) rfl ?_
  rintro _ _ ⟨g2, l2, r2, rfl, hI2, hX2, x2, rfl, -, -⟩
  have hJ2 := t_J_ext hJ1 (hX2.1 69 75 rfl).1 (fun j => (hX2.1 70 j rfl).1)
  have f2 := t_F_X hX2
  have hR2 : t_R g2 r2 := t_L_gen hR f1 f2 (by decide +kernel) (by decide +kernel)
  have h72 := t_L_g7 h7 f1 f2 (by decide +kernel)
  have hT2 : t_TP g2 := t_TP_same hT f1 f2 (by decide +kernel) rfl rfl
  have hD2 := t_DR_same hD hX1 hX2 (by decide +kernel) (fun j hj => (hX2.1 70 j (t_nG (lo := 0) (hi := 1400) rfl (Nat.zero_le _) hj)).1) hm12.2
  have hN1 : (g1 69 46).toInt = -1 := t_N46a hN f1 (by decide +kernel)
  have hN2 : (g2 69 46).toInt = -1 := t_N46 hN f1 f2 (by decide +kernel)
  have hV2 := t_RZ_same hV hX1 hX2 (by decide +kernel) (fun j hj => (hX2.1 70 j (t_nG (lo := 0) (hi := 1400) rfl (Nat.zero_le _) hj)).1) hm12.2
  have hB2 : t_TB l2 := t_TB_same hB f1 f2 (by decide +kernel)
  refine ev_alu f_L_law (nx := 958) rfl rfl rfl rfl ?_
  refine ev_jmp f_L_law (nx := 1622) rfl rfl rfl ?_
  exact kk _ _ _ _ ⟨⟨⟨⟨⟨hI2, hH, hJ2, by omega, by omega⟩, hR2, h72⟩, hT2⟩, hD2⟩, ⟨hN2, hV2, hB2⟩⟩
set_option maxRecDepth 20000 in
theorem lc_22 {X : x_Ext} {c : Nat} {i : Int32} {sh : List (Nat ⊕ (Nat × Nat))} {gi : Nat → Nat → Int32} {gl : Nat → Nat → Int64} {gr : Nat → Nat → Value} {P : Option Value → x_G → Prop} (hL : X.1 ≤ 3072) (h0 : 0 ≤ i.toInt) (h1 : i.toInt + 6 ≤ (X.1 : Int)) (hW : t_LT9 c sh gi gl gr) (kk : ∀ sh2 gi2 gl2 gr2, t_LT9 (c + 1) sh2 gi2 gl2 gr2 → x_Ev X 1000 n_L_law 1622 [(3, .int i), (2, .ref 69), (1, .ref 0), (0, .retAddr 30)] [] (sh2, gi2, gl2, gr2) P) : x_Ev X 1000 n_L_law 961 [(3, .int i), (2, .ref 69), (1, .ref 0), (0, .retAddr 30)] [] (sh, gi, gl, gr) P := by
  obtain ⟨⟨⟨⟨⟨hI, hH, hJ, hz1, hz2⟩, hR, h7⟩, hT⟩, hD⟩, hN⟩ := hW
  obtain ⟨hN, hV, hB⟩ := hN
  have hk1 : (i + 1).toInt = i.toInt + 1 := t_ik rfl h0 (by omega) (by decide)
  obtain ⟨A1, hA1⟩ : ∃ v, X.2 (i + 1).toNatClampNeg = v := ⟨_, rfl⟩
  have hk2 : (i + 2).toInt = i.toInt + 2 := t_ik rfl h0 (by omega) (by decide)
  obtain ⟨A2, hA2⟩ : ∃ v, X.2 (i + 2).toNatClampNeg = v := ⟨_, rfl⟩
  have hi6 : i.toInt ≤ 3066 := by omega
  have hm12 := hI.b (hI.wf.s (k := 0) rfl) (t_bdK rfl : t_bd 10 12 = some (0, 3))
  refine ev_loc f_L_law (nx := 962) rfl rfl rfl rfl ?_
  refine ev_loc f_L_law (nx := 963) rfl rfl rfl rfl ?_
  refine ev_loc f_L_law (nx := 964) rfl rfl rfl rfl ?_
  refine ev_ic f_L_law (nx := 965) (v := 1) rfl (by decide) rfl ?_
  refine ev_alu f_L_law (nx := 966) rfl rfl rfl rfl ?_
  refine ev_scx f_L_law (nx := 967) (w := A1) rfl (by rw [hk1]; omega) (by rw [hk1]; omega) hA1 rfl ?_
  refine ev_loc f_L_law (nx := 968) rfl rfl rfl rfl ?_
  refine ev_loc f_L_law (nx := 969) rfl rfl rfl rfl ?_
  refine ev_ic f_L_law (nx := 970) (v := 2) rfl (by decide) rfl ?_
  refine ev_alu f_L_law (nx := 971) rfl rfl rfl rfl ?_
  refine ev_scx f_L_law (nx := 972) (w := A2) rfl (by rw [hk2]; omega) (by rw [hk2]; omega) hA2 rfl ?_
  refine ev_lwc f_L_law (nx := 975) rfl rfl rfl rfl rfl rfl rfl (x_Me.up (c_h_reading (d := 0) hI (A1) (A2)) (by omega)) rfl ?_
  rintro _ _ ⟨g1, l1, r1, rfl, hI1, hX1, x1, rfl, -, -⟩
  have hJ1 := t_J_ext hJ (hX1.1 69 75 rfl).1 (fun j => (hX1.1 70 j rfl).1)
  have f1 := t_F_X hX1
  refine ev_alu f_L_law (nx := 976) rfl rfl rfl rfl ?_
  refine ev_loc f_L_law (nx := 977) rfl rfl rfl rfl ?_
  refine ev_loc f_L_law (nx := 978) rfl rfl rfl rfl ?_
  refine ev_loc f_L_law (nx := 979) rfl rfl rfl rfl ?_
  refine ev_ic f_L_law (nx := 980) (v := 1) rfl (by decide) rfl ?_
  refine ev_alu f_L_law (nx := 981) rfl rfl rfl rfl ?_
  refine ev_scx f_L_law (nx := 982) (w := A1) rfl (by rw [hk1]; omega) (by rw [hk1]; omega) hA1 rfl ?_
  refine ev_loc f_L_law (nx := 983) rfl rfl rfl rfl ?_
  refine ev_loc f_L_law (nx := 984) rfl rfl rfl rfl ?_
  refine ev_ic f_L_law (nx := 985) (v := 2) rfl (by decide) rfl ?_
  refine ev_alu f_L_law (nx := 986) rfl rfl rfl rfl ?_
  refine ev_scx f_L_law (nx := 987) (w := A2) rfl (by rw [hk2]; omega) (by rw [hk2]; omega) hA2 rfl ?_
  have hm0 : ((0 : Nat) : Int) ≤ (g1 69 75).toInt := (hI1.b (hI1.wf.s (k := 69) rfl) (t_bdK rfl : t_bd 11 75 = some (0, 3))).1
  have hm3 := (hI1.b (hI1.wf.s (k := 69) rfl) (t_bdK rfl : t_bd 11 75 = some (0, 3))).2
  refine ev_lwc f_L_law (nx := 990) rfl rfl rfl rfl rfl rfl rfl (x_Me.up (c_m_reading (d := 0) hI1 (A1) (A2)) (by omega)) rfl ?_
  rintro _ _ ⟨g2, l2, r2, rfl, hI2, hX2, x2, rfl, -, -⟩
  have hJ2 := t_J_ext hJ1 (hX2.1 69 75 rfl).1 (fun j => (hX2.1 70 j rfl).1)
  have f2 := t_F_X hX2
  have hR2 : t_R g2 r2 := t_L_gen hR f1 f2 (by decide +kernel) (by decide +kernel)
  have h72 := t_L_g7 h7 f1 f2 (by decide +kernel)
  have hT2 : t_TP g2 := t_TP_same hT f1 f2 (by decide +kernel) rfl rfl
  have hD2 := t_DR_same hD hX1 hX2 (by decide +kernel) (fun j hj => (hX2.1 70 j (t_nG (lo := 0) (hi := 1400) rfl (Nat.zero_le _) hj)).1) hm12.2
  have hN1 : (g1 69 46).toInt = -1 := t_N46a hN f1 (by decide +kernel)
  have hN2 : (g2 69 46).toInt = -1 := t_N46 hN f1 f2 (by decide +kernel)
  have hV2 := t_RZ_same hV hX1 hX2 (by decide +kernel) (fun j hj => (hX2.1 70 j (t_nG (lo := 0) (hi := 1400) rfl (Nat.zero_le _) hj)).1) hm12.2
  have hB2 : t_TB l2 := t_TB_same hB f1 f2 (by decide +kernel)
  refine ev_alu f_L_law (nx := 991) rfl rfl rfl rfl ?_
  refine ev_jmp f_L_law (nx := 1622) rfl rfl rfl ?_
  exact kk _ _ _ _ ⟨⟨⟨⟨⟨hI2, hH, hJ2, by omega, by omega⟩, hR2, h72⟩, hT2⟩, hD2⟩, ⟨hN2, hV2, hB2⟩⟩
set_option maxRecDepth 20000 in
theorem lc_23 {X : x_Ext} {c : Nat} {i : Int32} {sh : List (Nat ⊕ (Nat × Nat))} {gi : Nat → Nat → Int32} {gl : Nat → Nat → Int64} {gr : Nat → Nat → Value} {P : Option Value → x_G → Prop} (hL : X.1 ≤ 3072) (h0 : 0 ≤ i.toInt) (h1 : i.toInt + 6 ≤ (X.1 : Int)) (hW : t_LT9 c sh gi gl gr) (kk : ∀ sh2 gi2 gl2 gr2, t_LT9 (c + 1) sh2 gi2 gl2 gr2 → x_Ev X 1000 n_L_law 1622 [(3, .int i), (2, .ref 69), (1, .ref 0), (0, .retAddr 30)] [] (sh2, gi2, gl2, gr2) P) : x_Ev X 1000 n_L_law 994 [(3, .int i), (2, .ref 69), (1, .ref 0), (0, .retAddr 30)] [] (sh, gi, gl, gr) P := by
  obtain ⟨⟨⟨⟨⟨hI, hH, hJ, hz1, hz2⟩, hR, h7⟩, hT⟩, hD⟩, hN⟩ := hW
  obtain ⟨hN, hV, hB⟩ := hN
  have hk1 : (i + 1).toInt = i.toInt + 1 := t_ik rfl h0 (by omega) (by decide)
  obtain ⟨A1, hA1⟩ : ∃ v, X.2 (i + 1).toNatClampNeg = v := ⟨_, rfl⟩
  have hk2 : (i + 2).toInt = i.toInt + 2 := t_ik rfl h0 (by omega) (by decide)
  obtain ⟨A2, hA2⟩ : ∃ v, X.2 (i + 2).toNatClampNeg = v := ⟨_, rfl⟩
  have hk3 : (i + 3).toInt = i.toInt + 3 := t_ik rfl h0 (by omega) (by decide)
  obtain ⟨A3, hA3⟩ : ∃ v, X.2 (i + 3).toNatClampNeg = v := ⟨_, rfl⟩
  have hi6 : i.toInt ≤ 3066 := by omega
  have hm12 := hI.b (hI.wf.s (k := 0) rfl) (t_bdK rfl : t_bd 10 12 = some (0, 3))
  refine ev_loc f_L_law (nx := 995) rfl rfl rfl rfl ?_
  refine ev_loc f_L_law (nx := 996) rfl rfl rfl rfl ?_
  refine ev_loc f_L_law (nx := 997) rfl rfl rfl rfl ?_
  refine ev_ic f_L_law (nx := 998) (v := 1) rfl (by decide) rfl ?_
  refine ev_alu f_L_law (nx := 999) rfl rfl rfl rfl ?_
  refine ev_scx f_L_law (nx := 1000) (w := A1) rfl (by rw [hk1]; omega) (by rw [hk1]; omega) hA1 rfl ?_
  refine ev_alu f_L_law (nx := 1001) rfl rfl rfl rfl ?_
  refine ev_bp f_L_law (nx := 1003) (v := 32) rfl (by decide) rfl ?_
  refine ev_alu f_L_law (nx := 1004) rfl rfl rfl rfl ?_
  refine ev_loc f_L_law (nx := 1005) rfl rfl rfl rfl ?_
  refine ev_loc f_L_law (nx := 1006) rfl rfl rfl rfl ?_
  refine ev_ic f_L_law (nx := 1007) (v := 2) rfl (by decide) rfl ?_
  refine ev_alu f_L_law (nx := 1008) rfl rfl rfl rfl ?_
  refine ev_scx f_L_law (nx := 1009) (w := A2) rfl (by rw [hk2]; omega) (by rw [hk2]; omega) hA2 rfl ?_
  refine ev_alu f_L_law (nx := 1010) rfl rfl rfl rfl ?_
  refine ev_ldL f_L_law (nx := 1013) (v := 4294967295) rfl (by decide) rfl ?_
  refine ev_alu f_L_law (nx := 1014) rfl rfl rfl rfl ?_
  refine ev_alu f_L_law (nx := 1015) rfl rfl rfl rfl ?_
  refine ev_loc f_L_law (nx := 1016) rfl rfl rfl rfl ?_
  refine ev_loc f_L_law (nx := 1017) rfl rfl rfl rfl ?_
  refine ev_ic f_L_law (nx := 1018) (v := 3) rfl (by decide) rfl ?_
  refine ev_alu f_L_law (nx := 1019) rfl rfl rfl rfl ?_
  refine ev_scx f_L_law (nx := 1020) (w := A3) rfl (by rw [hk3]; omega) (by rw [hk3]; omega) hA3 rfl ?_
  refine ev_lwc f_L_law (nx := 1023) rfl rfl rfl rfl rfl rfl rfl (x_Me.up (((x_Me.up (d' := 900) (c_h_doubt (d := 0) hI _ (A3)) (by omega)).and (x_Me.up (d' := 900) (c_d_doubtF (d := 0) hI _ (A3)) (by omega)))) (by omega)) rfl ?_
  rintro _ _ ⟨⟨g1, l1, r1, rfl, hI1, hX1, x1, rfl, -, -⟩, hq1⟩
  obtain ⟨g9, l9, r9, e9, -, -, x9, e8, -, -, qs1⟩ := hq1
  cases e9; cases e8
  have hJ1 := t_J_ext hJ (hX1.1 69 75 rfl).1 (fun j => (hX1.1 70 j rfl).1)
  have f1 := t_F_X hX1
  refine ev_alu f_L_law (nx := 1024) rfl rfl rfl rfl ?_
  refine ev_loc f_L_law (nx := 1025) rfl rfl rfl rfl ?_
  refine ev_loc f_L_law (nx := 1026) rfl rfl rfl rfl ?_
  refine ev_loc f_L_law (nx := 1027) rfl rfl rfl rfl ?_
  refine ev_ic f_L_law (nx := 1028) (v := 1) rfl (by decide) rfl ?_
  refine ev_alu f_L_law (nx := 1029) rfl rfl rfl rfl ?_
  refine ev_scx f_L_law (nx := 1030) (w := A1) rfl (by rw [hk1]; omega) (by rw [hk1]; omega) hA1 rfl ?_
  refine ev_alu f_L_law (nx := 1031) rfl rfl rfl rfl ?_
  refine ev_bp f_L_law (nx := 1033) (v := 32) rfl (by decide) rfl ?_
  refine ev_alu f_L_law (nx := 1034) rfl rfl rfl rfl ?_
  refine ev_loc f_L_law (nx := 1035) rfl rfl rfl rfl ?_
  refine ev_loc f_L_law (nx := 1036) rfl rfl rfl rfl ?_
  refine ev_ic f_L_law (nx := 1037) (v := 2) rfl (by decide) rfl ?_
  refine ev_alu f_L_law (nx := 1038) rfl rfl rfl rfl ?_
  refine ev_scx f_L_law (nx := 1039) (w := A2) rfl (by rw [hk2]; omega) (by rw [hk2]; omega) hA2 rfl ?_
  refine ev_alu f_L_law (nx := 1040) rfl rfl rfl rfl ?_
  refine ev_ldL f_L_law (nx := 1043) (v := 4294967295) rfl (by decide) rfl ?_
  refine ev_alu f_L_law (nx := 1044) rfl rfl rfl rfl ?_
  refine ev_alu f_L_law (nx := 1045) rfl rfl rfl rfl ?_
  refine ev_loc f_L_law (nx := 1046) rfl rfl rfl rfl ?_
  refine ev_loc f_L_law (nx := 1047) rfl rfl rfl rfl ?_
  refine ev_ic f_L_law (nx := 1048) (v := 3) rfl (by decide) rfl ?_
  refine ev_alu f_L_law (nx := 1049) rfl rfl rfl rfl ?_
  refine ev_scx f_L_law (nx := 1050) (w := A3) rfl (by rw [hk3]; omega) (by rw [hk3]; omega) hA3 rfl ?_
  have hm0 : ((0 : Nat) : Int) ≤ (g1 69 75).toInt := (hI1.b (hI1.wf.s (k := 69) rfl) (t_bdK rfl : t_bd 11 75 = some (0, 3))).1
  have hm3 := (hI1.b (hI1.wf.s (k := 69) rfl) (t_bdK rfl : t_bd 11 75 = some (0, 3))).2
  refine ev_lwc f_L_law (nx := 1053) rfl rfl rfl rfl rfl rfl rfl (x_Me.up (((x_Me.up (d' := 900) (c_m_doubt (d := 0) hI1 _ (A3)) (by omega)).and (x_Me.up (d' := 900) (c_e_doubtF (d := 0) hI1 _ (A3)) (by omega)))) (by omega)) rfl ?_
  rintro _ _ ⟨⟨g2, l2, r2, rfl, hI2, hX2, x2, rfl, -, -⟩, hq2⟩
  obtain ⟨g9, l9, r9, e9, -, -, x9, e8, -, -, qs2⟩ := hq2
  cases e9; cases e8
  have hJ2 := t_J_ext hJ1 (hX2.1 69 75 rfl).1 (fun j => (hX2.1 70 j rfl).1)
  have f2 := t_F_X hX2
  have hR2 : t_R g2 r2 := t_L_gen hR f1 f2 (by decide +kernel) (by decide +kernel)
  have h72 := t_L_g7 h7 f1 f2 (by decide +kernel)
  have hT2 : t_TP g2 := t_TP_same hT f1 f2 (by decide +kernel) rfl rfl
  have hD2 := t_DR_same hD hX1 hX2 (by decide +kernel) (fun j hj => (hX2.1 70 j (t_nG (lo := 0) (hi := 1400) rfl (Nat.zero_le _) hj)).1) hm12.2
  have hN1 : (g1 69 46).toInt = -1 := t_N46a hN f1 (by decide +kernel)
  have hN2 : (g2 69 46).toInt = -1 := t_N46 hN f1 f2 (by decide +kernel)
  have hV2 := t_RZ_same hV hX1 hX2 (by decide +kernel) (fun j hj => (hX2.1 70 j (t_nG (lo := 0) (hi := 1400) rfl (Nat.zero_le _) hj)).1) hm12.2
  have hB2 : t_TB l2 := t_TB_doubt hB hD f1 f2 rfl (by decide +kernel) qs1 qs2
  refine ev_alu f_L_law (nx := 1054) rfl rfl rfl rfl ?_
  refine ev_jmp f_L_law (nx := 1622) rfl rfl rfl ?_
  exact kk _ _ _ _ ⟨⟨⟨⟨⟨hI2, hH, hJ2, by omega, by omega⟩, hR2, h72⟩, hT2⟩, hD2⟩, ⟨hN2, hV2, hB2⟩⟩
set_option maxRecDepth 20000 in
theorem lc_24 {X : x_Ext} {c : Nat} {i : Int32} {sh : List (Nat ⊕ (Nat × Nat))} {gi : Nat → Nat → Int32} {gl : Nat → Nat → Int64} {gr : Nat → Nat → Value} {P : Option Value → x_G → Prop} (hL : X.1 ≤ 3072) (h0 : 0 ≤ i.toInt) (h1 : i.toInt + 6 ≤ (X.1 : Int)) (hW : t_LT9 c sh gi gl gr) (kk : ∀ sh2 gi2 gl2 gr2, t_LT9 (c + 1) sh2 gi2 gl2 gr2 → x_Ev X 1000 n_L_law 1622 [(3, .int i), (2, .ref 69), (1, .ref 0), (0, .retAddr 30)] [] (sh2, gi2, gl2, gr2) P) : x_Ev X 1000 n_L_law 1057 [(3, .int i), (2, .ref 69), (1, .ref 0), (0, .retAddr 30)] [] (sh, gi, gl, gr) P := by
  obtain ⟨⟨⟨⟨⟨hI, hH, hJ, hz1, hz2⟩, hR, h7⟩, hT⟩, hD⟩, hN⟩ := hW
  obtain ⟨hN, hV, hB⟩ := hN
  have hi6 : i.toInt ≤ 3066 := by omega
  have hm12 := hI.b (hI.wf.s (k := 0) rfl) (t_bdK rfl : t_bd 10 12 = some (0, 3))
  refine ev_loc f_L_law (nx := 1058) rfl rfl rfl rfl ?_
  refine ev_lwc f_L_law (nx := 1061) rfl rfl rfl rfl rfl rfl rfl (x_Me.up (c_h_alike (d := 0) hI) (by omega)) rfl ?_
  rintro _ _ ⟨g1, l1, r1, rfl, hI1, hX1, x1, rfl, -, -⟩
  have hJ1 := t_J_ext hJ (hX1.1 69 75 rfl).1 (fun j => (hX1.1 70 j rfl).1)
  have f1 := t_F_X hX1
  refine ev_alu f_L_law (nx := 1062) rfl rfl rfl rfl ?_
  refine ev_loc f_L_law (nx := 1063) rfl rfl rfl rfl ?_
  have hm0 : ((0 : Nat) : Int) ≤ (g1 69 75).toInt := (hI1.b (hI1.wf.s (k := 69) rfl) (t_bdK rfl : t_bd 11 75 = some (0, 3))).1
  have hm3 := (hI1.b (hI1.wf.s (k := 69) rfl) (t_bdK rfl : t_bd 11 75 = some (0, 3))).2
  refine ev_lwc f_L_law (nx := 1066) rfl rfl rfl rfl rfl rfl rfl (x_Me.up (c_m_alike (d := 0) hI1) (by omega)) rfl ?_
  rintro _ _ ⟨g2, l2, r2, rfl, hI2, hX2, x2, rfl, -, -⟩
  have hJ2 := t_J_ext hJ1 (hX2.1 69 75 rfl).1 (fun j => (hX2.1 70 j rfl).1)
  have f2 := t_F_X hX2
  have hR2 : t_R g2 r2 := t_L_gen hR f1 f2 (by decide +kernel) (by decide +kernel)
  have h72 := t_L_g7 h7 f1 f2 (by decide +kernel)
  have hT2 : t_TP g2 := t_TP_same hT f1 f2 (by decide +kernel) rfl rfl
  have hD2 := t_DR_same hD hX1 hX2 (by decide +kernel) (fun j hj => (hX2.1 70 j (t_nG (lo := 0) (hi := 1400) rfl (Nat.zero_le _) hj)).1) hm12.2
  have hN1 : (g1 69 46).toInt = -1 := t_N46a hN f1 (by decide +kernel)
  have hN2 : (g2 69 46).toInt = -1 := t_N46 hN f1 f2 (by decide +kernel)
  have hV2 := t_RZ_same hV hX1 hX2 (by decide +kernel) (fun j hj => (hX2.1 70 j (t_nG (lo := 0) (hi := 1400) rfl (Nat.zero_le _) hj)).1) hm12.2
  have hB2 : t_TB l2 := t_TB_same hB f1 f2 (by decide +kernel)
  refine ev_alu f_L_law (nx := 1067) rfl rfl rfl rfl ?_
  refine ev_jmp f_L_law (nx := 1622) rfl rfl rfl ?_
  exact kk _ _ _ _ ⟨⟨⟨⟨⟨hI2, hH, hJ2, by omega, by omega⟩, hR2, h72⟩, hT2⟩, hD2⟩, ⟨hN2, hV2, hB2⟩⟩
set_option maxRecDepth 20000 in
theorem lc_25 {X : x_Ext} {c : Nat} {i : Int32} {sh : List (Nat ⊕ (Nat × Nat))} {gi : Nat → Nat → Int32} {gl : Nat → Nat → Int64} {gr : Nat → Nat → Value} {P : Option Value → x_G → Prop} (hL : X.1 ≤ 3072) (h0 : 0 ≤ i.toInt) (h1 : i.toInt + 6 ≤ (X.1 : Int)) (hW : t_LT9 c sh gi gl gr) (kk : ∀ sh2 gi2 gl2 gr2, t_LT9 (c + 1) sh2 gi2 gl2 gr2 → x_Ev X 1000 n_L_law 1622 [(3, .int i), (2, .ref 69), (1, .ref 0), (0, .retAddr 30)] [] (sh2, gi2, gl2, gr2) P) : x_Ev X 1000 n_L_law 1070 [(3, .int i), (2, .ref 69), (1, .ref 0), (0, .retAddr 30)] [] (sh, gi, gl, gr) P := by
  obtain ⟨⟨⟨⟨⟨hI, hH, hJ, hz1, hz2⟩, hR, h7⟩, hT⟩, hD⟩, hN⟩ := hW
  obtain ⟨hN, hV, hB⟩ := hN
  have hk1 : (i + 1).toInt = i.toInt + 1 := t_ik rfl h0 (by omega) (by decide)
  obtain ⟨A1, hA1⟩ : ∃ v, X.2 (i + 1).toNatClampNeg = v := ⟨_, rfl⟩
  have hk2 : (i + 2).toInt = i.toInt + 2 := t_ik rfl h0 (by omega) (by decide)
  obtain ⟨A2, hA2⟩ : ∃ v, X.2 (i + 2).toNatClampNeg = v := ⟨_, rfl⟩
  have hk3 : (i + 3).toInt = i.toInt + 3 := t_ik rfl h0 (by omega) (by decide)
  obtain ⟨A3, hA3⟩ : ∃ v, X.2 (i + 3).toNatClampNeg = v := ⟨_, rfl⟩
  have hi6 : i.toInt ≤ 3066 := by omega
  have hm12 := hI.b (hI.wf.s (k := 0) rfl) (t_bdK rfl : t_bd 10 12 = some (0, 3))
  refine ev_loc f_L_law (nx := 1071) rfl rfl rfl rfl ?_
  refine ev_loc f_L_law (nx := 1072) rfl rfl rfl rfl ?_
  refine ev_loc f_L_law (nx := 1073) rfl rfl rfl rfl ?_
  refine ev_ic f_L_law (nx := 1074) (v := 1) rfl (by decide) rfl ?_
  refine ev_alu f_L_law (nx := 1075) rfl rfl rfl rfl ?_
  refine ev_scx f_L_law (nx := 1076) (w := A1) rfl (by rw [hk1]; omega) (by rw [hk1]; omega) hA1 rfl ?_
  refine ev_loc f_L_law (nx := 1077) rfl rfl rfl rfl ?_
  refine ev_loc f_L_law (nx := 1078) rfl rfl rfl rfl ?_
  refine ev_ic f_L_law (nx := 1079) (v := 2) rfl (by decide) rfl ?_
  refine ev_alu f_L_law (nx := 1080) rfl rfl rfl rfl ?_
  refine ev_scx f_L_law (nx := 1081) (w := A2) rfl (by rw [hk2]; omega) (by rw [hk2]; omega) hA2 rfl ?_
  refine ev_loc f_L_law (nx := 1082) rfl rfl rfl rfl ?_
  refine ev_loc f_L_law (nx := 1083) rfl rfl rfl rfl ?_
  refine ev_ic f_L_law (nx := 1084) (v := 3) rfl (by decide) rfl ?_
  refine ev_alu f_L_law (nx := 1085) rfl rfl rfl rfl ?_
  refine ev_scx f_L_law (nx := 1086) (w := A3) rfl (by rw [hk3]; omega) (by rw [hk3]; omega) hA3 rfl ?_
  refine ev_lwc f_L_law (nx := 1089) rfl rfl rfl rfl rfl rfl rfl (x_Me.up (c_h_code (d := 0) hI (A1) (A2) (A3)) (by omega)) rfl ?_
  rintro _ _ ⟨g1, l1, r1, rfl, hI1, hX1, x1, rfl, -, -⟩
  have hJ1 := t_J_ext hJ (hX1.1 69 75 rfl).1 (fun j => (hX1.1 70 j rfl).1)
  have f1 := t_F_X hX1
  refine ev_alu f_L_law (nx := 1090) rfl rfl rfl rfl ?_
  refine ev_loc f_L_law (nx := 1091) rfl rfl rfl rfl ?_
  refine ev_loc f_L_law (nx := 1092) rfl rfl rfl rfl ?_
  refine ev_loc f_L_law (nx := 1093) rfl rfl rfl rfl ?_
  refine ev_ic f_L_law (nx := 1094) (v := 1) rfl (by decide) rfl ?_
  refine ev_alu f_L_law (nx := 1095) rfl rfl rfl rfl ?_
  refine ev_scx f_L_law (nx := 1096) (w := A1) rfl (by rw [hk1]; omega) (by rw [hk1]; omega) hA1 rfl ?_
  refine ev_loc f_L_law (nx := 1097) rfl rfl rfl rfl ?_
  refine ev_loc f_L_law (nx := 1098) rfl rfl rfl rfl ?_
  refine ev_ic f_L_law (nx := 1099) (v := 2) rfl (by decide) rfl ?_
  refine ev_alu f_L_law (nx := 1100) rfl rfl rfl rfl ?_
  refine ev_scx f_L_law (nx := 1101) (w := A2) rfl (by rw [hk2]; omega) (by rw [hk2]; omega) hA2 rfl ?_
  refine ev_loc f_L_law (nx := 1102) rfl rfl rfl rfl ?_
  refine ev_loc f_L_law (nx := 1103) rfl rfl rfl rfl ?_
  refine ev_ic f_L_law (nx := 1104) (v := 3) rfl (by decide) rfl ?_
  refine ev_alu f_L_law (nx := 1105) rfl rfl rfl rfl ?_
  refine ev_scx f_L_law (nx := 1106) (w := A3) rfl (by rw [hk3]; omega) (by rw [hk3]; omega) hA3 rfl ?_
  have hm0 : ((0 : Nat) : Int) ≤ (g1 69 75).toInt := (hI1.b (hI1.wf.s (k := 69) rfl) (t_bdK rfl : t_bd 11 75 = some (0, 3))).1
  have hm3 := (hI1.b (hI1.wf.s (k := 69) rfl) (t_bdK rfl : t_bd 11 75 = some (0, 3))).2
  refine ev_lwc f_L_law (nx := 1109) rfl rfl rfl rfl rfl rfl rfl (x_Me.up (c_m_code (d := 0) hI1 (A1) (A2) (A3)) (by omega)) rfl ?_
  rintro _ _ ⟨g2, l2, r2, rfl, hI2, hX2, x2, rfl, -, -⟩
  have hJ2 : t_J g2 := t_J_0 hI1 hJ1 (hX2.1 69 75 rfl).1 hm3 (Or.inl (fun j h2 => (hX2.1 70 j (t_nG (lo := 0) (hi := 1400) rfl (Nat.zero_le _) (by omega))).1)) (fun j h1 h2 => (hX2.1 70 j (t_nG (lo := 0) (hi := 1400) rfl (Nat.zero_le _) h2)).1)
  have f2 := t_F_X hX2
  have hR2 : t_R g2 r2 := t_L_gen hR f1 f2 (by decide +kernel) (by decide +kernel)
  have h72 := t_L_g7 h7 f1 f2 (by decide +kernel)
  have hT2 : t_TP g2 := t_TP_same hT f1 f2 (by decide +kernel) rfl rfl
  have hD2 := t_DR_same hD hX1 hX2 (by decide +kernel) (fun j hj => (hX2.1 70 j (t_nG (lo := 0) (hi := 1400) rfl (Nat.zero_le _) hj)).1) hm12.2
  have hN1 : (g1 69 46).toInt = -1 := t_N46a hN f1 (by decide +kernel)
  have hN2 : (g2 69 46).toInt = -1 := t_N46 hN f1 f2 (by decide +kernel)
  have hV2 := t_RZ_same hV hX1 hX2 (by decide +kernel) (fun j hj => (hX2.1 70 j (t_nG (lo := 0) (hi := 1400) rfl (Nat.zero_le _) hj)).1) hm12.2
  have hB2 : t_TB l2 := t_TB_same hB f1 f2 (by decide +kernel)
  refine ev_alu f_L_law (nx := 1110) rfl rfl rfl rfl ?_
  refine ev_jmp f_L_law (nx := 1622) rfl rfl rfl ?_
  exact kk _ _ _ _ ⟨⟨⟨⟨⟨hI2, hH, hJ2, by omega, by omega⟩, hR2, h72⟩, hT2⟩, hD2⟩, ⟨hN2, hV2, hB2⟩⟩
set_option maxRecDepth 20000 in
theorem lc_26 {X : x_Ext} {c : Nat} {i : Int32} {sh : List (Nat ⊕ (Nat × Nat))} {gi : Nat → Nat → Int32} {gl : Nat → Nat → Int64} {gr : Nat → Nat → Value} {P : Option Value → x_G → Prop} (hL : X.1 ≤ 3072) (h0 : 0 ≤ i.toInt) (h1 : i.toInt + 6 ≤ (X.1 : Int)) (hW : t_LT9 c sh gi gl gr) (kk : ∀ sh2 gi2 gl2 gr2, t_LT9 (c + 1) sh2 gi2 gl2 gr2 → x_Ev X 1000 n_L_law 1622 [(3, .int i), (2, .ref 69), (1, .ref 0), (0, .retAddr 30)] [] (sh2, gi2, gl2, gr2) P) : x_Ev X 1000 n_L_law 1113 [(3, .int i), (2, .ref 69), (1, .ref 0), (0, .retAddr 30)] [] (sh, gi, gl, gr) P := by
  obtain ⟨⟨⟨⟨⟨hI, hH, hJ, hz1, hz2⟩, hR, h7⟩, hT⟩, hD⟩, hN⟩ := hW
  obtain ⟨hN, hV, hB⟩ := hN
  have hk1 : (i + 1).toInt = i.toInt + 1 := t_ik rfl h0 (by omega) (by decide)
  obtain ⟨A1, hA1⟩ : ∃ v, X.2 (i + 1).toNatClampNeg = v := ⟨_, rfl⟩
  have hi6 : i.toInt ≤ 3066 := by omega
  have hm12 := hI.b (hI.wf.s (k := 0) rfl) (t_bdK rfl : t_bd 10 12 = some (0, 3))
  refine ev_loc f_L_law (nx := 1114) rfl rfl rfl rfl ?_
  refine ev_loc f_L_law (nx := 1115) rfl rfl rfl rfl ?_
  refine ev_loc f_L_law (nx := 1116) rfl rfl rfl rfl ?_
  refine ev_ic f_L_law (nx := 1117) (v := 1) rfl (by decide) rfl ?_
  refine ev_alu f_L_law (nx := 1118) rfl rfl rfl rfl ?_
  refine ev_scx f_L_law (nx := 1119) (w := A1) rfl (by rw [hk1]; omega) (by rw [hk1]; omega) hA1 rfl ?_
  refine ev_lwc f_L_law (nx := 1122) rfl rfl rfl rfl rfl rfl rfl (x_Me.up (c_h_codeAt (d := 0) hI (A1)) (by omega)) rfl ?_
  rintro _ _ ⟨g1, l1, r1, rfl, hI1, hX1, x1, rfl⟩
  have hJ1 := t_J_ext hJ (hX1.1 69 75 rfl).1 (fun j => (hX1.1 70 j rfl).1)
  have f1 := t_F_X hX1
  refine ev_pop2 f_L_law (nx := 1123) rfl rfl ?_
  refine ev_loc f_L_law (nx := 1124) rfl rfl rfl rfl ?_
  refine ev_loc f_L_law (nx := 1125) rfl rfl rfl rfl ?_
  refine ev_loc f_L_law (nx := 1126) rfl rfl rfl rfl ?_
  refine ev_ic f_L_law (nx := 1127) (v := 1) rfl (by decide) rfl ?_
  refine ev_alu f_L_law (nx := 1128) rfl rfl rfl rfl ?_
  refine ev_scx f_L_law (nx := 1129) (w := A1) rfl (by rw [hk1]; omega) (by rw [hk1]; omega) hA1 rfl ?_
  have hm0 : ((0 : Nat) : Int) ≤ (g1 69 75).toInt := (hI1.b (hI1.wf.s (k := 69) rfl) (t_bdK rfl : t_bd 11 75 = some (0, 3))).1
  have hm3 := (hI1.b (hI1.wf.s (k := 69) rfl) (t_bdK rfl : t_bd 11 75 = some (0, 3))).2
  refine ev_lwc f_L_law (nx := 1132) rfl rfl rfl rfl rfl rfl rfl (x_Me.up (c_m_codeAt (d := 0) hI1 (A1)) (by omega)) rfl ?_
  rintro _ _ ⟨g2, l2, r2, rfl, hI2, hX2, x2, rfl⟩
  have hJ2 := t_J_ext hJ1 (hX2.1 69 75 rfl).1 (fun j => (hX2.1 70 j rfl).1)
  have f2 := t_F_X hX2
  have hR2 : t_R g2 r2 := t_L_gen hR f1 f2 (by decide +kernel) (by decide +kernel)
  have h72 := t_L_g7 h7 f1 f2 (by decide +kernel)
  have hT2 : t_TP g2 := t_TP_same hT f1 f2 (by decide +kernel) rfl rfl
  have hD2 := t_DR_same hD hX1 hX2 (by decide +kernel) (fun j hj => (hX2.1 70 j (t_nG (lo := 0) (hi := 1400) rfl (Nat.zero_le _) hj)).1) hm12.2
  have hN1 : (g1 69 46).toInt = -1 := t_N46a hN f1 (by decide +kernel)
  have hN2 : (g2 69 46).toInt = -1 := t_N46 hN f1 f2 (by decide +kernel)
  have hV2 := t_RZ_same hV hX1 hX2 (by decide +kernel) (fun j hj => (hX2.1 70 j (t_nG (lo := 0) (hi := 1400) rfl (Nat.zero_le _) hj)).1) hm12.2
  have hB2 : t_TB l2 := t_TB_same hB f1 f2 (by decide +kernel)
  refine ev_pop2 f_L_law (nx := 1133) rfl rfl ?_
  refine ev_jmp f_L_law (nx := 1622) rfl rfl rfl ?_
  exact kk _ _ _ _ ⟨⟨⟨⟨⟨hI2, hH, hJ2, by omega, by omega⟩, hR2, h72⟩, hT2⟩, hD2⟩, ⟨hN2, hV2, hB2⟩⟩
set_option maxRecDepth 20000 in
theorem lc_27 {X : x_Ext} {c : Nat} {i : Int32} {sh : List (Nat ⊕ (Nat × Nat))} {gi : Nat → Nat → Int32} {gl : Nat → Nat → Int64} {gr : Nat → Nat → Value} {P : Option Value → x_G → Prop} (hL : X.1 ≤ 3072) (h0 : 0 ≤ i.toInt) (h1 : i.toInt + 6 ≤ (X.1 : Int)) (hW : t_LT9 c sh gi gl gr) (kk : ∀ sh2 gi2 gl2 gr2, t_LT9 (c + 1) sh2 gi2 gl2 gr2 → x_Ev X 1000 n_L_law 1622 [(3, .int i), (2, .ref 69), (1, .ref 0), (0, .retAddr 30)] [] (sh2, gi2, gl2, gr2) P) : x_Ev X 1000 n_L_law 1136 [(3, .int i), (2, .ref 69), (1, .ref 0), (0, .retAddr 30)] [] (sh, gi, gl, gr) P := by
  obtain ⟨⟨⟨⟨⟨hI, hH, hJ, hz1, hz2⟩, hR, h7⟩, hT⟩, hD⟩, hN⟩ := hW
  obtain ⟨hN, hV, hB⟩ := hN
  have hk1 : (i + 1).toInt = i.toInt + 1 := t_ik rfl h0 (by omega) (by decide)
  obtain ⟨A1, hA1⟩ : ∃ v, X.2 (i + 1).toNatClampNeg = v := ⟨_, rfl⟩
  have hk2 : (i + 2).toInt = i.toInt + 2 := t_ik rfl h0 (by omega) (by decide)
  obtain ⟨A2, hA2⟩ : ∃ v, X.2 (i + 2).toNatClampNeg = v := ⟨_, rfl⟩
  have hi6 : i.toInt ≤ 3066 := by omega
  have hm12 := hI.b (hI.wf.s (k := 0) rfl) (t_bdK rfl : t_bd 10 12 = some (0, 3))
  refine ev_loc f_L_law (nx := 1137) rfl rfl rfl rfl ?_
  refine ev_loc f_L_law (nx := 1138) rfl rfl rfl rfl ?_
  refine ev_loc f_L_law (nx := 1139) rfl rfl rfl rfl ?_
  refine ev_ic f_L_law (nx := 1140) (v := 1) rfl (by decide) rfl ?_
  refine ev_alu f_L_law (nx := 1141) rfl rfl rfl rfl ?_
  refine ev_scx f_L_law (nx := 1142) (w := A1) rfl (by rw [hk1]; omega) (by rw [hk1]; omega) hA1 rfl ?_
  refine ev_alu f_L_law (nx := 1143) rfl rfl rfl rfl ?_
  refine ev_bp f_L_law (nx := 1145) (v := 32) rfl (by decide) rfl ?_
  refine ev_alu f_L_law (nx := 1146) rfl rfl rfl rfl ?_
  refine ev_loc f_L_law (nx := 1147) rfl rfl rfl rfl ?_
  refine ev_loc f_L_law (nx := 1148) rfl rfl rfl rfl ?_
  refine ev_ic f_L_law (nx := 1149) (v := 2) rfl (by decide) rfl ?_
  refine ev_alu f_L_law (nx := 1150) rfl rfl rfl rfl ?_
  refine ev_scx f_L_law (nx := 1151) (w := A2) rfl (by rw [hk2]; omega) (by rw [hk2]; omega) hA2 rfl ?_
  refine ev_alu f_L_law (nx := 1152) rfl rfl rfl rfl ?_
  refine ev_ldL f_L_law (nx := 1155) (v := 4294967295) rfl (by decide) rfl ?_
  refine ev_alu f_L_law (nx := 1156) rfl rfl rfl rfl ?_
  refine ev_alu f_L_law (nx := 1157) rfl rfl rfl rfl ?_
  refine ev_lwc f_L_law (nx := 1160) rfl rfl rfl rfl rfl rfl rfl (x_Me.up (c_h_parts (d := 0) hI _) (by omega)) rfl ?_
  rintro _ _ ⟨g1, l1, r1, rfl, hI1, hX1, x1, rfl, -, -⟩
  have hJ1 := t_J_ext hJ (hX1.1 69 75 rfl).1 (fun j => (hX1.1 70 j rfl).1)
  have f1 := t_F_X hX1
  refine ev_alu f_L_law (nx := 1161) rfl rfl rfl rfl ?_
  refine ev_loc f_L_law (nx := 1162) rfl rfl rfl rfl ?_
  refine ev_loc f_L_law (nx := 1163) rfl rfl rfl rfl ?_
  refine ev_loc f_L_law (nx := 1164) rfl rfl rfl rfl ?_
  refine ev_ic f_L_law (nx := 1165) (v := 1) rfl (by decide) rfl ?_
  refine ev_alu f_L_law (nx := 1166) rfl rfl rfl rfl ?_
  refine ev_scx f_L_law (nx := 1167) (w := A1) rfl (by rw [hk1]; omega) (by rw [hk1]; omega) hA1 rfl ?_
  refine ev_alu f_L_law (nx := 1168) rfl rfl rfl rfl ?_
  refine ev_bp f_L_law (nx := 1170) (v := 32) rfl (by decide) rfl ?_
  refine ev_alu f_L_law (nx := 1171) rfl rfl rfl rfl ?_
  refine ev_loc f_L_law (nx := 1172) rfl rfl rfl rfl ?_
  refine ev_loc f_L_law (nx := 1173) rfl rfl rfl rfl ?_
  refine ev_ic f_L_law (nx := 1174) (v := 2) rfl (by decide) rfl ?_
  refine ev_alu f_L_law (nx := 1175) rfl rfl rfl rfl ?_
  refine ev_scx f_L_law (nx := 1176) (w := A2) rfl (by rw [hk2]; omega) (by rw [hk2]; omega) hA2 rfl ?_
  refine ev_alu f_L_law (nx := 1177) rfl rfl rfl rfl ?_
  refine ev_ldL f_L_law (nx := 1180) (v := 4294967295) rfl (by decide) rfl ?_
  refine ev_alu f_L_law (nx := 1181) rfl rfl rfl rfl ?_
  refine ev_alu f_L_law (nx := 1182) rfl rfl rfl rfl ?_
  have hm0 : ((0 : Nat) : Int) ≤ (g1 69 75).toInt := (hI1.b (hI1.wf.s (k := 69) rfl) (t_bdK rfl : t_bd 11 75 = some (0, 3))).1
  have hm3 := (hI1.b (hI1.wf.s (k := 69) rfl) (t_bdK rfl : t_bd 11 75 = some (0, 3))).2
  refine ev_lwc f_L_law (nx := 1185) rfl rfl rfl rfl rfl rfl rfl (x_Me.up (c_m_parts (d := 0) hI1 _) (by omega)) rfl ?_
  rintro _ _ ⟨g2, l2, r2, rfl, hI2, hX2, x2, rfl, -, -⟩
  have hJ2 := t_J_ext hJ1 (hX2.1 69 75 rfl).1 (fun j => (hX2.1 70 j rfl).1)
  have f2 := t_F_X hX2
  have hR2 : t_R g2 r2 := t_L_gen hR f1 f2 (by decide +kernel) (by decide +kernel)
  have h72 := t_L_g7 h7 f1 f2 (by decide +kernel)
  have hT2 : t_TP g2 := t_TP_same hT f1 f2 (by decide +kernel) rfl rfl
  have hD2 := t_DR_same hD hX1 hX2 (by decide +kernel) (fun j hj => (hX2.1 70 j (t_nG (lo := 0) (hi := 1400) rfl (Nat.zero_le _) hj)).1) hm12.2
  have hN1 : (g1 69 46).toInt = -1 := t_N46a hN f1 (by decide +kernel)
  have hN2 : (g2 69 46).toInt = -1 := t_N46 hN f1 f2 (by decide +kernel)
  have hV2 := t_RZ_same hV hX1 hX2 (by decide +kernel) (fun j hj => (hX2.1 70 j (t_nG (lo := 0) (hi := 1400) rfl (Nat.zero_le _) hj)).1) hm12.2
  have hB2 : t_TB l2 := t_TB_same hB f1 f2 (by decide +kernel)
  refine ev_alu f_L_law (nx := 1186) rfl rfl rfl rfl ?_
  refine ev_jmp f_L_law (nx := 1622) rfl rfl rfl ?_
  exact kk _ _ _ _ ⟨⟨⟨⟨⟨hI2, hH, hJ2, by omega, by omega⟩, hR2, h72⟩, hT2⟩, hD2⟩, ⟨hN2, hV2, hB2⟩⟩
set_option maxRecDepth 20000 in
theorem lc_28 {X : x_Ext} {c : Nat} {i : Int32} {sh : List (Nat ⊕ (Nat × Nat))} {gi : Nat → Nat → Int32} {gl : Nat → Nat → Int64} {gr : Nat → Nat → Value} {P : Option Value → x_G → Prop} (hL : X.1 ≤ 3072) (h0 : 0 ≤ i.toInt) (h1 : i.toInt + 6 ≤ (X.1 : Int)) (hW : t_LT9 c sh gi gl gr) (kk : ∀ sh2 gi2 gl2 gr2, t_LT9 (c + 1) sh2 gi2 gl2 gr2 → x_Ev X 1000 n_L_law 1622 [(3, .int i), (2, .ref 69), (1, .ref 0), (0, .retAddr 30)] [] (sh2, gi2, gl2, gr2) P) : x_Ev X 1000 n_L_law 1189 [(3, .int i), (2, .ref 69), (1, .ref 0), (0, .retAddr 30)] [] (sh, gi, gl, gr) P := by
  obtain ⟨⟨⟨⟨⟨hI, hH, hJ, hz1, hz2⟩, hR, h7⟩, hT⟩, hD⟩, hN⟩ := hW
  obtain ⟨hN, hV, hB⟩ := hN
  have hk1 : (i + 1).toInt = i.toInt + 1 := t_ik rfl h0 (by omega) (by decide)
  obtain ⟨A1, hA1⟩ : ∃ v, X.2 (i + 1).toNatClampNeg = v := ⟨_, rfl⟩
  have hk2 : (i + 2).toInt = i.toInt + 2 := t_ik rfl h0 (by omega) (by decide)
  obtain ⟨A2, hA2⟩ : ∃ v, X.2 (i + 2).toNatClampNeg = v := ⟨_, rfl⟩
  have hi6 : i.toInt ≤ 3066 := by omega
  have hm12 := hI.b (hI.wf.s (k := 0) rfl) (t_bdK rfl : t_bd 10 12 = some (0, 3))
  refine ev_loc f_L_law (nx := 1190) rfl rfl rfl rfl ?_
  refine ev_loc f_L_law (nx := 1191) rfl rfl rfl rfl ?_
  refine ev_loc f_L_law (nx := 1192) rfl rfl rfl rfl ?_
  refine ev_ic f_L_law (nx := 1193) (v := 1) rfl (by decide) rfl ?_
  refine ev_alu f_L_law (nx := 1194) rfl rfl rfl rfl ?_
  refine ev_scx f_L_law (nx := 1195) (w := A1) rfl (by rw [hk1]; omega) (by rw [hk1]; omega) hA1 rfl ?_
  refine ev_loc f_L_law (nx := 1196) rfl rfl rfl rfl ?_
  refine ev_loc f_L_law (nx := 1197) rfl rfl rfl rfl ?_
  refine ev_ic f_L_law (nx := 1198) (v := 2) rfl (by decide) rfl ?_
  refine ev_alu f_L_law (nx := 1199) rfl rfl rfl rfl ?_
  refine ev_scx f_L_law (nx := 1200) (w := A2) rfl (by rw [hk2]; omega) (by rw [hk2]; omega) hA2 rfl ?_
  refine ev_lwc f_L_law (nx := 1203) rfl rfl rfl rfl rfl rfl rfl (x_Me.up (c_h_clearBeats (d := 0) hI (A1) (A2)) (by omega)) rfl ?_
  rintro _ _ ⟨g1, l1, r1, rfl, hI1, hX1, x1, rfl, -, -⟩
  have hJ1 := t_J_ext hJ (hX1.1 69 75 rfl).1 (fun j => (hX1.1 70 j rfl).1)
  have f1 := t_F_X hX1
  refine ev_alu f_L_law (nx := 1204) rfl rfl rfl rfl ?_
  refine ev_loc f_L_law (nx := 1205) rfl rfl rfl rfl ?_
  refine ev_loc f_L_law (nx := 1206) rfl rfl rfl rfl ?_
  refine ev_loc f_L_law (nx := 1207) rfl rfl rfl rfl ?_
  refine ev_ic f_L_law (nx := 1208) (v := 1) rfl (by decide) rfl ?_
  refine ev_alu f_L_law (nx := 1209) rfl rfl rfl rfl ?_
  refine ev_scx f_L_law (nx := 1210) (w := A1) rfl (by rw [hk1]; omega) (by rw [hk1]; omega) hA1 rfl ?_
  refine ev_loc f_L_law (nx := 1211) rfl rfl rfl rfl ?_
  refine ev_loc f_L_law (nx := 1212) rfl rfl rfl rfl ?_
  refine ev_ic f_L_law (nx := 1213) (v := 2) rfl (by decide) rfl ?_
  refine ev_alu f_L_law (nx := 1214) rfl rfl rfl rfl ?_
  refine ev_scx f_L_law (nx := 1215) (w := A2) rfl (by rw [hk2]; omega) (by rw [hk2]; omega) hA2 rfl ?_
  have hm0 : ((0 : Nat) : Int) ≤ (g1 69 75).toInt := (hI1.b (hI1.wf.s (k := 69) rfl) (t_bdK rfl : t_bd 11 75 = some (0, 3))).1
  have hm3 := (hI1.b (hI1.wf.s (k := 69) rfl) (t_bdK rfl : t_bd 11 75 = some (0, 3))).2
  refine ev_lwc f_L_law (nx := 1218) rfl rfl rfl rfl rfl rfl rfl (x_Me.up (c_m_clearBeats (d := 0) hI1 (A1) (A2)) (by omega)) rfl ?_
  rintro _ _ ⟨g2, l2, r2, rfl, hI2, hX2, x2, rfl, -, -⟩
  have hJ2 := t_J_ext hJ1 (hX2.1 69 75 rfl).1 (fun j => (hX2.1 70 j rfl).1)
  have f2 := t_F_X hX2
  have hR2 : t_R g2 r2 := t_L_gen hR f1 f2 (by decide +kernel) (by decide +kernel)
  have h72 := t_L_g7 h7 f1 f2 (by decide +kernel)
  have hT2 : t_TP g2 := t_TP_same hT f1 f2 (by decide +kernel) rfl rfl
  have hD2 := t_DR_same hD hX1 hX2 (by decide +kernel) (fun j hj => (hX2.1 70 j (t_nG (lo := 0) (hi := 1400) rfl (Nat.zero_le _) hj)).1) hm12.2
  have hN1 : (g1 69 46).toInt = -1 := t_N46a hN f1 (by decide +kernel)
  have hN2 : (g2 69 46).toInt = -1 := t_N46 hN f1 f2 (by decide +kernel)
  have hV2 := t_RZ_same hV hX1 hX2 (by decide +kernel) (fun j hj => (hX2.1 70 j (t_nG (lo := 0) (hi := 1400) rfl (Nat.zero_le _) hj)).1) hm12.2
  have hB2 : t_TB l2 := t_TB_same hB f1 f2 (by decide +kernel)
  refine ev_alu f_L_law (nx := 1219) rfl rfl rfl rfl ?_
  refine ev_jmp f_L_law (nx := 1622) rfl rfl rfl ?_
  exact kk _ _ _ _ ⟨⟨⟨⟨⟨hI2, hH, hJ2, by omega, by omega⟩, hR2, h72⟩, hT2⟩, hD2⟩, ⟨hN2, hV2, hB2⟩⟩
set_option maxRecDepth 20000 in
theorem lc_29 {X : x_Ext} {c : Nat} {i : Int32} {sh : List (Nat ⊕ (Nat × Nat))} {gi : Nat → Nat → Int32} {gl : Nat → Nat → Int64} {gr : Nat → Nat → Value} {P : Option Value → x_G → Prop} (hL : X.1 ≤ 3072) (h0 : 0 ≤ i.toInt) (h1 : i.toInt + 6 ≤ (X.1 : Int)) (hW : t_LT9 c sh gi gl gr) (kk : ∀ sh2 gi2 gl2 gr2, t_LT9 (c + 1) sh2 gi2 gl2 gr2 → x_Ev X 1000 n_L_law 1622 [(3, .int i), (2, .ref 69), (1, .ref 0), (0, .retAddr 30)] [] (sh2, gi2, gl2, gr2) P) : x_Ev X 1000 n_L_law 1222 [(3, .int i), (2, .ref 69), (1, .ref 0), (0, .retAddr 30)] [] (sh, gi, gl, gr) P := by
  obtain ⟨⟨⟨⟨⟨hI, hH, hJ, hz1, hz2⟩, hR, h7⟩, hT⟩, hD⟩, hN⟩ := hW
  obtain ⟨hN, hV, hB⟩ := hN
  have hi6 : i.toInt ≤ 3066 := by omega
  have hm12 := hI.b (hI.wf.s (k := 0) rfl) (t_bdK rfl : t_bd 10 12 = some (0, 3))
  refine ev_loc f_L_law (nx := 1223) rfl rfl rfl rfl ?_
  refine ev_lwc f_L_law (nx := 1226) rfl rfl rfl rfl rfl rfl rfl (x_Me.up (c_h_clearEcho (d := 0) hI) (by omega)) rfl ?_
  rintro _ _ ⟨g1, l1, r1, rfl, hI1, hX1, x1, rfl, -, -⟩
  have hJ1 := t_J_ext hJ (hX1.1 69 75 rfl).1 (fun j => (hX1.1 70 j rfl).1)
  have f1 := t_F_X hX1
  refine ev_alu f_L_law (nx := 1227) rfl rfl rfl rfl ?_
  refine ev_loc f_L_law (nx := 1228) rfl rfl rfl rfl ?_
  have hm0 : ((0 : Nat) : Int) ≤ (g1 69 75).toInt := (hI1.b (hI1.wf.s (k := 69) rfl) (t_bdK rfl : t_bd 11 75 = some (0, 3))).1
  have hm3 := (hI1.b (hI1.wf.s (k := 69) rfl) (t_bdK rfl : t_bd 11 75 = some (0, 3))).2
  refine ev_lwc f_L_law (nx := 1231) rfl rfl rfl rfl rfl rfl rfl (x_Me.up (c_m_clearEcho (d := 0) hI1) (by omega)) rfl ?_
  rintro _ _ ⟨g2, l2, r2, rfl, hI2, hX2, x2, rfl, -, -⟩
  have hJ2 := t_J_ext hJ1 (hX2.1 69 75 rfl).1 (fun j => (hX2.1 70 j rfl).1)
  have f2 := t_F_X hX2
  have hR2 : t_R g2 r2 := t_L_gen hR f1 f2 (by decide +kernel) (by decide +kernel)
  have h72 := t_L_g7 h7 f1 f2 (by decide +kernel)
  have hT2 : t_TP g2 := t_TP_same hT f1 f2 (by decide +kernel) rfl rfl
  have hD2 := t_DR_same hD hX1 hX2 (by decide +kernel) (fun j hj => (hX2.1 70 j (t_nG (lo := 0) (hi := 1400) rfl (Nat.zero_le _) hj)).1) hm12.2
  have hN1 : (g1 69 46).toInt = -1 := t_N46a hN f1 (by decide +kernel)
  have hN2 : (g2 69 46).toInt = -1 := t_N46 hN f1 f2 (by decide +kernel)
  have hV2 := t_RZ_same hV hX1 hX2 (by decide +kernel) (fun j hj => (hX2.1 70 j (t_nG (lo := 0) (hi := 1400) rfl (Nat.zero_le _) hj)).1) hm12.2
  have hB2 : t_TB l2 := t_TB_same hB f1 f2 (by decide +kernel)
  refine ev_alu f_L_law (nx := 1232) rfl rfl rfl rfl ?_
  refine ev_jmp f_L_law (nx := 1622) rfl rfl rfl ?_
  exact kk _ _ _ _ ⟨⟨⟨⟨⟨hI2, hH, hJ2, by omega, by omega⟩, hR2, h72⟩, hT2⟩, hD2⟩, ⟨hN2, hV2, hB2⟩⟩
set_option maxRecDepth 20000 in
theorem lc_30 {X : x_Ext} {c : Nat} {i : Int32} {sh : List (Nat ⊕ (Nat × Nat))} {gi : Nat → Nat → Int32} {gl : Nat → Nat → Int64} {gr : Nat → Nat → Value} {P : Option Value → x_G → Prop} (hL : X.1 ≤ 3072) (h0 : 0 ≤ i.toInt) (h1 : i.toInt + 6 ≤ (X.1 : Int)) (hW : t_LT9 c sh gi gl gr) (kk : ∀ sh2 gi2 gl2 gr2, t_LT9 (c + 1) sh2 gi2 gl2 gr2 → x_Ev X 1000 n_L_law 1622 [(3, .int i), (2, .ref 69), (1, .ref 0), (0, .retAddr 30)] [] (sh2, gi2, gl2, gr2) P) : x_Ev X 1000 n_L_law 1235 [(3, .int i), (2, .ref 69), (1, .ref 0), (0, .retAddr 30)] [] (sh, gi, gl, gr) P := by
  obtain ⟨⟨⟨⟨⟨hI, hH, hJ, hz1, hz2⟩, hR, h7⟩, hT⟩, hD⟩, hN⟩ := hW
  obtain ⟨hN, hV, hB⟩ := hN
  have hi6 : i.toInt ≤ 3066 := by omega
  have hm12 := hI.b (hI.wf.s (k := 0) rfl) (t_bdK rfl : t_bd 10 12 = some (0, 3))
  refine ev_loc f_L_law (nx := 1236) rfl rfl rfl rfl ?_
  refine ev_lwc f_L_law (nx := 1239) rfl rfl rfl rfl rfl rfl rfl (x_Me.up (c_h_silent (d := 0) hI) (by omega)) rfl ?_
  rintro _ _ ⟨g1, l1, r1, rfl, hI1, hX1, x1, rfl, -, -⟩
  have hJ1 := t_J_ext hJ (hX1.1 69 75 rfl).1 (fun j => (hX1.1 70 j rfl).1)
  have f1 := t_F_X hX1
  refine ev_alu f_L_law (nx := 1240) rfl rfl rfl rfl ?_
  refine ev_loc f_L_law (nx := 1241) rfl rfl rfl rfl ?_
  have hm0 : ((0 : Nat) : Int) ≤ (g1 69 75).toInt := (hI1.b (hI1.wf.s (k := 69) rfl) (t_bdK rfl : t_bd 11 75 = some (0, 3))).1
  have hm3 := (hI1.b (hI1.wf.s (k := 69) rfl) (t_bdK rfl : t_bd 11 75 = some (0, 3))).2
  refine ev_lwc f_L_law (nx := 1244) rfl rfl rfl rfl rfl rfl rfl (x_Me.up (c_m_silent (d := 0) hI1) (by omega)) rfl ?_
  rintro _ _ ⟨g2, l2, r2, rfl, hI2, hX2, x2, rfl, -, -⟩
  have hJ2 := t_J_ext hJ1 (hX2.1 69 75 rfl).1 (fun j => (hX2.1 70 j rfl).1)
  have f2 := t_F_X hX2
  have hR2 : t_R g2 r2 := t_L_gen hR f1 f2 (by decide +kernel) (by decide +kernel)
  have h72 := t_L_g7 h7 f1 f2 (by decide +kernel)
  have hT2 : t_TP g2 := t_TP_same hT f1 f2 (by decide +kernel) rfl rfl
  have hD2 := t_DR_same hD hX1 hX2 (by decide +kernel) (fun j hj => (hX2.1 70 j (t_nG (lo := 0) (hi := 1400) rfl (Nat.zero_le _) hj)).1) hm12.2
  have hN1 : (g1 69 46).toInt = -1 := t_N46a hN f1 (by decide +kernel)
  have hN2 : (g2 69 46).toInt = -1 := t_N46 hN f1 f2 (by decide +kernel)
  have hV2 := t_RZ_same hV hX1 hX2 (by decide +kernel) (fun j hj => (hX2.1 70 j (t_nG (lo := 0) (hi := 1400) rfl (Nat.zero_le _) hj)).1) hm12.2
  have hB2 : t_TB l2 := t_TB_same hB f1 f2 (by decide +kernel)
  refine ev_alu f_L_law (nx := 1245) rfl rfl rfl rfl ?_
  refine ev_jmp f_L_law (nx := 1622) rfl rfl rfl ?_
  exact kk _ _ _ _ ⟨⟨⟨⟨⟨hI2, hH, hJ2, by omega, by omega⟩, hR2, h72⟩, hT2⟩, hD2⟩, ⟨hN2, hV2, hB2⟩⟩
set_option maxRecDepth 20000 in
theorem lc_31 {X : x_Ext} {c : Nat} {i : Int32} {sh : List (Nat ⊕ (Nat × Nat))} {gi : Nat → Nat → Int32} {gl : Nat → Nat → Int64} {gr : Nat → Nat → Value} {P : Option Value → x_G → Prop} (hL : X.1 ≤ 3072) (h0 : 0 ≤ i.toInt) (h1 : i.toInt + 6 ≤ (X.1 : Int)) (hW : t_LT9 c sh gi gl gr) (kk : ∀ sh2 gi2 gl2 gr2, t_LT9 (c + 1) sh2 gi2 gl2 gr2 → x_Ev X 1000 n_L_law 1622 [(3, .int i), (2, .ref 69), (1, .ref 0), (0, .retAddr 30)] [] (sh2, gi2, gl2, gr2) P) : x_Ev X 1000 n_L_law 1248 [(3, .int i), (2, .ref 69), (1, .ref 0), (0, .retAddr 30)] [] (sh, gi, gl, gr) P := by
  obtain ⟨⟨⟨⟨⟨hI, hH, hJ, hz1, hz2⟩, hR, h7⟩, hT⟩, hD⟩, hN⟩ := hW
  obtain ⟨hN, hV, hB⟩ := hN
  have hi6 : i.toInt ≤ 3066 := by omega
  have hm12 := hI.b (hI.wf.s (k := 0) rfl) (t_bdK rfl : t_bd 10 12 = some (0, 3))
  refine ev_loc f_L_law (nx := 1249) rfl rfl rfl rfl ?_
  refine ev_lwc f_L_law (nx := 1252) rfl rfl rfl rfl rfl rfl rfl (x_Me.up (c_h_least (d := 0) hI) (by omega)) rfl ?_
  rintro _ _ ⟨g1, l1, r1, rfl, hI1, hX1, x1, rfl, -, -⟩
  have hJ1 := t_J_ext hJ (hX1.1 69 75 rfl).1 (fun j => (hX1.1 70 j rfl).1)
  have f1 := t_F_X hX1
  refine ev_alu f_L_law (nx := 1253) rfl rfl rfl rfl ?_
  refine ev_loc f_L_law (nx := 1254) rfl rfl rfl rfl ?_
  have hm0 : ((0 : Nat) : Int) ≤ (g1 69 75).toInt := (hI1.b (hI1.wf.s (k := 69) rfl) (t_bdK rfl : t_bd 11 75 = some (0, 3))).1
  have hm3 := (hI1.b (hI1.wf.s (k := 69) rfl) (t_bdK rfl : t_bd 11 75 = some (0, 3))).2
  refine ev_lwc f_L_law (nx := 1257) rfl rfl rfl rfl rfl rfl rfl (x_Me.up (c_m_least (d := 0) hI1 (hJ1 0 hm0).2) (by omega)) rfl ?_
  rintro _ _ ⟨g2, l2, r2, rfl, hI2, hX2, x2, rfl, -, -⟩
  have hJ2 := t_J_ext hJ1 (hX2.1 69 75 rfl).1 (fun j => (hX2.1 70 j rfl).1)
  have f2 := t_F_X hX2
  have hR2 : t_R g2 r2 := t_L_gen hR f1 f2 (by decide +kernel) (by decide +kernel)
  have h72 := t_L_g7 h7 f1 f2 (by decide +kernel)
  have hT2 : t_TP g2 := t_TP_same hT f1 f2 (by decide +kernel) rfl rfl
  have hD2 := t_DR_same hD hX1 hX2 (by decide +kernel) (fun j hj => (hX2.1 70 j (t_nG (lo := 0) (hi := 1400) rfl (Nat.zero_le _) hj)).1) hm12.2
  have hN1 : (g1 69 46).toInt = -1 := t_N46a hN f1 (by decide +kernel)
  have hN2 : (g2 69 46).toInt = -1 := t_N46 hN f1 f2 (by decide +kernel)
  have hV2 := t_RZ_same hV hX1 hX2 (by decide +kernel) (fun j hj => (hX2.1 70 j (t_nG (lo := 0) (hi := 1400) rfl (Nat.zero_le _) hj)).1) hm12.2
  have hB2 : t_TB l2 := t_TB_same hB f1 f2 (by decide +kernel)
  refine ev_alu f_L_law (nx := 1258) rfl rfl rfl rfl ?_
  refine ev_jmp f_L_law (nx := 1622) rfl rfl rfl ?_
  exact kk _ _ _ _ ⟨⟨⟨⟨⟨hI2, hH, hJ2, by omega, by omega⟩, hR2, h72⟩, hT2⟩, hD2⟩, ⟨hN2, hV2, hB2⟩⟩
set_option maxRecDepth 20000 in
theorem lc_32 {X : x_Ext} {c : Nat} {i : Int32} {sh : List (Nat ⊕ (Nat × Nat))} {gi : Nat → Nat → Int32} {gl : Nat → Nat → Int64} {gr : Nat → Nat → Value} {P : Option Value → x_G → Prop} (hL : X.1 ≤ 3072) (h0 : 0 ≤ i.toInt) (h1 : i.toInt + 6 ≤ (X.1 : Int)) (hW : t_LT9 c sh gi gl gr) (kk : ∀ sh2 gi2 gl2 gr2, t_LT9 (c + 1) sh2 gi2 gl2 gr2 → x_Ev X 1000 n_L_law 1622 [(3, .int i), (2, .ref 69), (1, .ref 0), (0, .retAddr 30)] [] (sh2, gi2, gl2, gr2) P) : x_Ev X 1000 n_L_law 1261 [(3, .int i), (2, .ref 69), (1, .ref 0), (0, .retAddr 30)] [] (sh, gi, gl, gr) P := by
  obtain ⟨⟨⟨⟨⟨hI, hH, hJ, hz1, hz2⟩, hR, h7⟩, hT⟩, hD⟩, hN⟩ := hW
  obtain ⟨hN, hV, hB⟩ := hN
  have hi6 : i.toInt ≤ 3066 := by omega
  have hm12 := hI.b (hI.wf.s (k := 0) rfl) (t_bdK rfl : t_bd 10 12 = some (0, 3))
  refine ev_loc f_L_law (nx := 1262) rfl rfl rfl rfl ?_
  refine ev_lwc f_L_law (nx := 1265) rfl rfl rfl rfl rfl rfl rfl (x_Me.up (c_h_plan (d := 0) hI) (by omega)) rfl ?_
  rintro _ _ ⟨g1, l1, r1, rfl, hI1, hX1, x1, rfl, -, -⟩
  have hJ1 := t_J_ext hJ (hX1.1 69 75 rfl).1 (fun j => (hX1.1 70 j rfl).1)
  have f1 := t_F_X hX1
  refine ev_alu f_L_law (nx := 1266) rfl rfl rfl rfl ?_
  refine ev_loc f_L_law (nx := 1267) rfl rfl rfl rfl ?_
  have hm0 : ((0 : Nat) : Int) ≤ (g1 69 75).toInt := (hI1.b (hI1.wf.s (k := 69) rfl) (t_bdK rfl : t_bd 11 75 = some (0, 3))).1
  have hm3 := (hI1.b (hI1.wf.s (k := 69) rfl) (t_bdK rfl : t_bd 11 75 = some (0, 3))).2
  refine ev_lwc f_L_law (nx := 1270) rfl rfl rfl rfl rfl rfl rfl (x_Me.up (c_m_plan (d := 0) hI1 (hJ1 0 hm0).2) (by omega)) rfl ?_
  rintro _ _ ⟨g2, l2, r2, rfl, hI2, hX2, x2, rfl, -, -⟩
  have hJ2 := t_J_ext hJ1 (hX2.1 69 75 rfl).1 (fun j => (hX2.1 70 j rfl).1)
  have f2 := t_F_X hX2
  have hR2 : t_R g2 r2 := t_L_gen hR f1 f2 (by decide +kernel) (by decide +kernel)
  have h72 := t_L_g7 h7 f1 f2 (by decide +kernel)
  have hT2 : t_TP g2 := t_TP_same hT f1 f2 (by decide +kernel) rfl rfl
  have hD2 := t_DR_same hD hX1 hX2 (by decide +kernel) (fun j hj => (hX2.1 70 j (t_nG (lo := 0) (hi := 1400) rfl (Nat.zero_le _) hj)).1) hm12.2
  have hN1 : (g1 69 46).toInt = -1 := t_N46a hN f1 (by decide +kernel)
  have hN2 : (g2 69 46).toInt = -1 := t_N46 hN f1 f2 (by decide +kernel)
  have hV2 := t_RZ_same hV hX1 hX2 (by decide +kernel) (fun j hj => (hX2.1 70 j (t_nG (lo := 0) (hi := 1400) rfl (Nat.zero_le _) hj)).1) hm12.2
  have hB2 : t_TB l2 := t_TB_same hB f1 f2 (by decide +kernel)
  refine ev_alu f_L_law (nx := 1271) rfl rfl rfl rfl ?_
  refine ev_jmp f_L_law (nx := 1622) rfl rfl rfl ?_
  exact kk _ _ _ _ ⟨⟨⟨⟨⟨hI2, hH, hJ2, by omega, by omega⟩, hR2, h72⟩, hT2⟩, hD2⟩, ⟨hN2, hV2, hB2⟩⟩
set_option maxRecDepth 20000 in
theorem lc_33 {X : x_Ext} {c : Nat} {i : Int32} {sh : List (Nat ⊕ (Nat × Nat))} {gi : Nat → Nat → Int32} {gl : Nat → Nat → Int64} {gr : Nat → Nat → Value} {P : Option Value → x_G → Prop} (hL : X.1 ≤ 3072) (h0 : 0 ≤ i.toInt) (h1 : i.toInt + 6 ≤ (X.1 : Int)) (hW : t_LT9 c sh gi gl gr) (kk : ∀ sh2 gi2 gl2 gr2, t_LT9 (c + 1) sh2 gi2 gl2 gr2 → x_Ev X 1000 n_L_law 1622 [(3, .int i), (2, .ref 69), (1, .ref 0), (0, .retAddr 30)] [] (sh2, gi2, gl2, gr2) P) : x_Ev X 1000 n_L_law 1274 [(3, .int i), (2, .ref 69), (1, .ref 0), (0, .retAddr 30)] [] (sh, gi, gl, gr) P := by
  obtain ⟨⟨⟨⟨⟨hI, hH, hJ, hz1, hz2⟩, hR, h7⟩, hT⟩, hD⟩, hN⟩ := hW
  obtain ⟨hN, hV, hB⟩ := hN
  have hk1 : (i + 1).toInt = i.toInt + 1 := t_ik rfl h0 (by omega) (by decide)
  obtain ⟨A1, hA1⟩ : ∃ v, X.2 (i + 1).toNatClampNeg = v := ⟨_, rfl⟩
  have hk2 : (i + 2).toInt = i.toInt + 2 := t_ik rfl h0 (by omega) (by decide)
  obtain ⟨A2, hA2⟩ : ∃ v, X.2 (i + 2).toNatClampNeg = v := ⟨_, rfl⟩
  have hi6 : i.toInt ≤ 3066 := by omega
  have hm12 := hI.b (hI.wf.s (k := 0) rfl) (t_bdK rfl : t_bd 10 12 = some (0, 3))
  refine ev_loc f_L_law (nx := 1275) rfl rfl rfl rfl ?_
  refine ev_loc f_L_law (nx := 1276) rfl rfl rfl rfl ?_
  refine ev_loc f_L_law (nx := 1277) rfl rfl rfl rfl ?_
  refine ev_ic f_L_law (nx := 1278) (v := 1) rfl (by decide) rfl ?_
  refine ev_alu f_L_law (nx := 1279) rfl rfl rfl rfl ?_
  refine ev_scx f_L_law (nx := 1280) (w := A1) rfl (by rw [hk1]; omega) (by rw [hk1]; omega) hA1 rfl ?_
  refine ev_loc f_L_law (nx := 1281) rfl rfl rfl rfl ?_
  refine ev_loc f_L_law (nx := 1282) rfl rfl rfl rfl ?_
  refine ev_ic f_L_law (nx := 1283) (v := 2) rfl (by decide) rfl ?_
  refine ev_alu f_L_law (nx := 1284) rfl rfl rfl rfl ?_
  refine ev_scx f_L_law (nx := 1285) (w := A2) rfl (by rw [hk2]; omega) (by rw [hk2]; omega) hA2 rfl ?_
  refine ev_lwc f_L_law (nx := 1288) rfl rfl rfl rfl rfl rfl rfl (x_Me.up (c_h_planAt (d := 0) hI (A1) (A2)) (by omega)) rfl ?_
  rintro _ _ ⟨g1, l1, r1, rfl, hI1, hX1, x1, rfl, -, -⟩
  have hJ1 := t_J_ext hJ (hX1.1 69 75 rfl).1 (fun j => (hX1.1 70 j rfl).1)
  have f1 := t_F_X hX1
  refine ev_alu f_L_law (nx := 1289) rfl rfl rfl rfl ?_
  refine ev_loc f_L_law (nx := 1290) rfl rfl rfl rfl ?_
  refine ev_loc f_L_law (nx := 1291) rfl rfl rfl rfl ?_
  refine ev_loc f_L_law (nx := 1292) rfl rfl rfl rfl ?_
  refine ev_ic f_L_law (nx := 1293) (v := 1) rfl (by decide) rfl ?_
  refine ev_alu f_L_law (nx := 1294) rfl rfl rfl rfl ?_
  refine ev_scx f_L_law (nx := 1295) (w := A1) rfl (by rw [hk1]; omega) (by rw [hk1]; omega) hA1 rfl ?_
  refine ev_loc f_L_law (nx := 1296) rfl rfl rfl rfl ?_
  refine ev_loc f_L_law (nx := 1297) rfl rfl rfl rfl ?_
  refine ev_ic f_L_law (nx := 1298) (v := 2) rfl (by decide) rfl ?_
  refine ev_alu f_L_law (nx := 1299) rfl rfl rfl rfl ?_
  refine ev_scx f_L_law (nx := 1300) (w := A2) rfl (by rw [hk2]; omega) (by rw [hk2]; omega) hA2 rfl ?_
  have hm0 : ((0 : Nat) : Int) ≤ (g1 69 75).toInt := (hI1.b (hI1.wf.s (k := 69) rfl) (t_bdK rfl : t_bd 11 75 = some (0, 3))).1
  have hm3 := (hI1.b (hI1.wf.s (k := 69) rfl) (t_bdK rfl : t_bd 11 75 = some (0, 3))).2
  refine ev_lwc f_L_law (nx := 1303) rfl rfl rfl rfl rfl rfl rfl (x_Me.up (c_m_planAt (d := 0) hI1 (A1) (A2)) (by omega)) rfl ?_
  rintro _ _ ⟨g2, l2, r2, rfl, hI2, hX2, x2, rfl, -, -⟩
  have hJ2 := t_J_ext hJ1 (hX2.1 69 75 rfl).1 (fun j => (hX2.1 70 j rfl).1)
  have f2 := t_F_X hX2
  have hR2 : t_R g2 r2 := t_L_gen hR f1 f2 (by decide +kernel) (by decide +kernel)
  have h72 := t_L_g7 h7 f1 f2 (by decide +kernel)
  have hT2 : t_TP g2 := t_TP_same hT f1 f2 (by decide +kernel) rfl rfl
  have hD2 := t_DR_same hD hX1 hX2 (by decide +kernel) (fun j hj => (hX2.1 70 j (t_nG (lo := 0) (hi := 1400) rfl (Nat.zero_le _) hj)).1) hm12.2
  have hN1 : (g1 69 46).toInt = -1 := t_N46a hN f1 (by decide +kernel)
  have hN2 : (g2 69 46).toInt = -1 := t_N46 hN f1 f2 (by decide +kernel)
  have hV2 := t_RZ_same hV hX1 hX2 (by decide +kernel) (fun j hj => (hX2.1 70 j (t_nG (lo := 0) (hi := 1400) rfl (Nat.zero_le _) hj)).1) hm12.2
  have hB2 : t_TB l2 := t_TB_same hB f1 f2 (by decide +kernel)
  refine ev_alu f_L_law (nx := 1304) rfl rfl rfl rfl ?_
  refine ev_jmp f_L_law (nx := 1622) rfl rfl rfl ?_
  exact kk _ _ _ _ ⟨⟨⟨⟨⟨hI2, hH, hJ2, by omega, by omega⟩, hR2, h72⟩, hT2⟩, hD2⟩, ⟨hN2, hV2, hB2⟩⟩
