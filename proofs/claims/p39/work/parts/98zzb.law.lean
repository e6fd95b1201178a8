/-! ===== printed by law.py: the law's cases ===== -/
set_option maxRecDepth 20000 in
theorem lc_17 {X : x_Ext} {c : Nat} {i : Int32} {sh : List (Nat ⊕ (Nat × Nat))} {gi : Nat → Nat → Int32} {gl : Nat → Nat → Int64} {gr : Nat → Nat → Value} {P : Option Value → x_G → Prop} (hL : X.1 ≤ 3072) (h0 : 0 ≤ i.toInt) (h1 : i.toInt + 6 ≤ (X.1 : Int)) (hW : t_LE c sh gi gl gr) (kk : ∀ sh2 gi2 gl2 gr2, t_LE (c + 1) sh2 gi2 gl2 gr2 → x_Ev X 1000 n_L_law 1621 [(3, .int i), (2, .ref 69), (1, .ref 0), (0, .retAddr 30)] [] (sh2, gi2, gl2, gr2) P) : x_Ev X 1000 n_L_law 785 [(3, .int i), (2, .ref 69), (1, .ref 0), (0, .retAddr 30)] [] (sh, gi, gl, gr) P := by
  obtain ⟨⟨⟨⟨⟨hI, hH, hJ, hz1, hz2⟩, hR, h7⟩, hT⟩, hD⟩, hN⟩ := hW
  have hk1 : (i + 1).toInt = i.toInt + 1 := t_ik rfl h0 (by omega) (by decide)
  obtain ⟨A1, hA1⟩ : ∃ v, X.2 (i + 1).toNatClampNeg = v := ⟨_, rfl⟩
  have hi6 : i.toInt ≤ 3066 := by omega
  have hm12 := hI.b (hI.wf.s (k := 0) rfl) (t_bdK rfl : t_bd 10 12 = some (0, 3))
  refine ev_loc f_L_law (nx := 786) rfl rfl rfl rfl ?_
  refine ev_loc f_L_law (nx := 787) rfl rfl rfl rfl ?_
  refine ev_loc f_L_law (nx := 788) rfl rfl rfl rfl ?_
  refine ev_ic f_L_law (nx := 789) (v := 1) rfl (by decide) rfl ?_
  refine ev_alu f_L_law (nx := 790) rfl rfl rfl rfl ?_
  refine ev_scx f_L_law (nx := 791) (w := A1) rfl (by rw [hk1]; omega) (by rw [hk1]; omega) hA1 rfl ?_
  refine ev_lwc f_L_law (nx := 794) rfl rfl rfl rfl rfl rfl rfl (x_Me.up (c_h_heard (d := 0) hI (A1)) (by omega)) rfl ?_
  rintro _ _ ⟨g1, l1, r1, rfl, hI1, hX1, x1, rfl⟩
  have hJ1 := t_J_ext hJ (hX1.1 69 75 rfl).1 (fun j => (hX1.1 70 j rfl).1)
  have f1 := t_F_X hX1
  refine ev_pop2 f_L_law (nx := 795) rfl rfl ?_
  refine ev_loc f_L_law (nx := 796) rfl rfl rfl rfl ?_
  refine ev_loc f_L_law (nx := 797) rfl rfl rfl rfl ?_
  refine ev_loc f_L_law (nx := 798) rfl rfl rfl rfl ?_
  refine ev_ic f_L_law (nx := 799) (v := 1) rfl (by decide) rfl ?_
  refine ev_alu f_L_law (nx := 800) rfl rfl rfl rfl ?_
  refine ev_scx f_L_law (nx := 801) (w := A1) rfl (by rw [hk1]; omega) (by rw [hk1]; omega) hA1 rfl ?_
  have hm0 : ((0 : Nat) : Int) ≤ (g1 69 75).toInt := (hI1.b (hI1.wf.s (k := 69) rfl) (t_bdK rfl : t_bd 11 75 = some (0, 3))).1
  have hm3 := (hI1.b (hI1.wf.s (k := 69) rfl) (t_bdK rfl : t_bd 11 75 = some (0, 3))).2
  refine ev_lwc f_L_law (nx := 804) rfl rfl rfl rfl rfl rfl rfl (x_Me.up (c_m_heard (d := 0) hI1 (A1)) (by omega)) rfl ?_
  rintro _ _ ⟨g2, l2, r2, rfl, hI2, hX2, x2, rfl⟩
  have hJ2 := t_J_ext hJ1 (hX2.1 69 75 rfl).1 (fun j => (hX2.1 70 j rfl).1)
  have f2 := t_F_X hX2
  have hR2 : t_R g2 r2 := t_L_gen hR f1 f2 (by decide +kernel) (by decide +kernel)
  have h72 := t_L_g7 h7 f1 f2 (by decide +kernel)
  have hT2 : t_TP g2 := t_TP_same hT f1 f2 (by decide +kernel) rfl rfl
  have hD2 := t_DR_same hD hX1 hX2 (by decide +kernel) (fun j hj => (hX2.1 70 j (t_nG (lo := 0) (hi := 1400) rfl (Nat.zero_le _) hj)).1) hm12.2
  have hN1 : (g1 69 46).toInt = -1 := t_N46a hN f1 (by decide +kernel)
  have hN2 : (g2 69 46).toInt = -1 := t_N46 hN f1 f2 (by decide +kernel)
  refine ev_pop2 f_L_law (nx := 805) rfl rfl ?_
  refine ev_jmp f_L_law (nx := 1621) rfl rfl rfl ?_
  exact kk _ _ _ _ ⟨⟨⟨⟨⟨hI2, hH, hJ2, by omega, by omega⟩, hR2, h72⟩, hT2⟩, hD2⟩, hN2⟩
set_option maxRecDepth 20000 in
theorem lc_18 {X : x_Ext} {c : Nat} {i : Int32} {sh : List (Nat ⊕ (Nat × Nat))} {gi : Nat → Nat → Int32} {gl : Nat → Nat → Int64} {gr : Nat → Nat → Value} {P : Option Value → x_G → Prop} (hL : X.1 ≤ 3072) (h0 : 0 ≤ i.toInt) (h1 : i.toInt + 6 ≤ (X.1 : Int)) (hW : t_LE c sh gi gl gr) (kk : ∀ sh2 gi2 gl2 gr2, t_LE (c + 1) sh2 gi2 gl2 gr2 → x_Ev X 1000 n_L_law 1621 [(3, .int i), (2, .ref 69), (1, .ref 0), (0, .retAddr 30)] [] (sh2, gi2, gl2, gr2) P) : x_Ev X 1000 n_L_law 808 [(3, .int i), (2, .ref 69), (1, .ref 0), (0, .retAddr 30)] [] (sh, gi, gl, gr) P := by
  obtain ⟨⟨⟨⟨⟨hI, hH, hJ, hz1, hz2⟩, hR, h7⟩, hT⟩, hD⟩, hN⟩ := hW
  have hk1 : (i + 1).toInt = i.toInt + 1 := t_ik rfl h0 (by omega) (by decide)
  obtain ⟨A1, hA1⟩ : ∃ v, X.2 (i + 1).toNatClampNeg = v := ⟨_, rfl⟩
  have hk2 : (i + 2).toInt = i.toInt + 2 := t_ik rfl h0 (by omega) (by decide)
  obtain ⟨A2, hA2⟩ : ∃ v, X.2 (i + 2).toNatClampNeg = v := ⟨_, rfl⟩
  have hk3 : (i + 3).toInt = i.toInt + 3 := t_ik rfl h0 (by omega) (by decide)
  obtain ⟨A3, hA3⟩ : ∃ v, X.2 (i + 3).toNatClampNeg = v := ⟨_, rfl⟩
  have hi6 : i.toInt ≤ 3066 := by omega
  have hm12 := hI.b (hI.wf.s (k := 0) rfl) (t_bdK rfl : t_bd 10 12 = some (0, 3))
  refine ev_loc f_L_law (nx := 809) rfl rfl rfl rfl ?_
  refine ev_loc f_L_law (nx := 810) rfl rfl rfl rfl ?_
  refine ev_loc f_L_law (nx := 811) rfl rfl rfl rfl ?_
  refine ev_ic f_L_law (nx := 812) (v := 1) rfl (by decide) rfl ?_
  refine ev_alu f_L_law (nx := 813) rfl rfl rfl rfl ?_
  refine ev_scx f_L_law (nx := 814) (w := A1) rfl (by rw [hk1]; omega) (by rw [hk1]; omega) hA1 rfl ?_
  refine ev_loc f_L_law (nx := 815) rfl rfl rfl rfl ?_
  refine ev_loc f_L_law (nx := 816) rfl rfl rfl rfl ?_
  refine ev_ic f_L_law (nx := 817) (v := 2) rfl (by decide) rfl ?_
  refine ev_alu f_L_law (nx := 818) rfl rfl rfl rfl ?_
  refine ev_scx f_L_law (nx := 819) (w := A2) rfl (by rw [hk2]; omega) (by rw [hk2]; omega) hA2 rfl ?_
  refine ev_loc f_L_law (nx := 820) rfl rfl rfl rfl ?_
  refine ev_loc f_L_law (nx := 821) rfl rfl rfl rfl ?_
  refine ev_ic f_L_law (nx := 822) (v := 3) rfl (by decide) rfl ?_
  refine ev_alu f_L_law (nx := 823) rfl rfl rfl rfl ?_
  refine ev_scx f_L_law (nx := 824) (w := A3) rfl (by rw [hk3]; omega) (by rw [hk3]; omega) hA3 rfl ?_
  refine ev_lwc f_L_law (nx := 827) rfl rfl rfl rfl rfl rfl rfl (x_Me.up (c_h_together (d := 0) hI (A1) (A2) (A3)) (by omega)) rfl ?_
  rintro _ _ ⟨g1, l1, r1, rfl, hI1, hX1, x1, rfl⟩
  have hJ1 := t_J_ext hJ (hX1.1 69 75 rfl).1 (fun j => (hX1.1 70 j rfl).1)
  have f1 := t_F_X hX1
  refine ev_pop2 f_L_law (nx := 828) rfl rfl ?_
  refine ev_loc f_L_law (nx := 829) rfl rfl rfl rfl ?_
  refine ev_loc f_L_law (nx := 830) rfl rfl rfl rfl ?_
  refine ev_loc f_L_law (nx := 831) rfl rfl rfl rfl ?_
  refine ev_ic f_L_law (nx := 832) (v := 1) rfl (by decide) rfl ?_
  refine ev_alu f_L_law (nx := 833) rfl rfl rfl rfl ?_
  refine ev_scx f_L_law (nx := 834) (w := A1) rfl (by rw [hk1]; omega) (by rw [hk1]; omega) hA1 rfl ?_
  refine ev_loc f_L_law (nx := 835) rfl rfl rfl rfl ?_
  refine ev_loc f_L_law (nx := 836) rfl rfl rfl rfl ?_
  refine ev_ic f_L_law (nx := 837) (v := 2) rfl (by decide) rfl ?_
  refine ev_alu f_L_law (nx := 838) rfl rfl rfl rfl ?_
  refine ev_scx f_L_law (nx := 839) (w := A2) rfl (by rw [hk2]; omega) (by rw [hk2]; omega) hA2 rfl ?_
  refine ev_loc f_L_law (nx := 840) rfl rfl rfl rfl ?_
  refine ev_loc f_L_law (nx := 841) rfl rfl rfl rfl ?_
  refine ev_ic f_L_law (nx := 842) (v := 3) rfl (by decide) rfl ?_
  refine ev_alu f_L_law (nx := 843) rfl rfl rfl rfl ?_
  refine ev_scx f_L_law (nx := 844) (w := A3) rfl (by rw [hk3]; omega) (by rw [hk3]; omega) hA3 rfl ?_
  have hm0 : ((0 : Nat) : Int) ≤ (g1 69 75).toInt := (hI1.b (hI1.wf.s (k := 69) rfl) (t_bdK rfl : t_bd 11 75 = some (0, 3))).1
  have hm3 := (hI1.b (hI1.wf.s (k := 69) rfl) (t_bdK rfl : t_bd 11 75 = some (0, 3))).2
  refine ev_lwc f_L_law (nx := 847) rfl rfl rfl rfl rfl rfl rfl (x_Me.up (c_m_together (d := 0) hI1 (A1) (A2) (A3)) (by omega)) rfl ?_
  rintro _ _ ⟨g2, l2, r2, rfl, hI2, hX2, x2, rfl⟩
  have hJ2 := t_J_ext hJ1 (hX2.1 69 75 rfl).1 (fun j => (hX2.1 70 j rfl).1)
  have f2 := t_F_X hX2
  have hR2 : t_R g2 r2 := t_L_gen hR f1 f2 (by decide +kernel) (by decide +kernel)
  have h72 := t_L_g7 h7 f1 f2 (by decide +kernel)
  have hT2 : t_TP g2 := t_TP_same hT f1 f2 (by decide +kernel) rfl rfl
  have hD2 := t_DR_same hD hX1 hX2 (by decide +kernel) (fun j hj => (hX2.1 70 j (t_nG (lo := 0) (hi := 1400) rfl (Nat.zero_le _) hj)).1) hm12.2
  have hN1 : (g1 69 46).toInt = -1 := t_N46a hN f1 (by decide +kernel)
  have hN2 : (g2 69 46).toInt = -1 := t_N46 hN f1 f2 (by decide +kernel)
  refine ev_pop2 f_L_law (nx := 848) rfl rfl ?_
  refine ev_jmp f_L_law (nx := 1621) rfl rfl rfl ?_
  exact kk _ _ _ _ ⟨⟨⟨⟨⟨hI2, hH, hJ2, by omega, by omega⟩, hR2, h72⟩, hT2⟩, hD2⟩, hN2⟩
set_option maxRecDepth 20000 in
theorem lc_19 {X : x_Ext} {c : Nat} {i : Int32} {sh : List (Nat ⊕ (Nat × Nat))} {gi : Nat → Nat → Int32} {gl : Nat → Nat → Int64} {gr : Nat → Nat → Value} {P : Option Value → x_G → Prop} (hL : X.1 ≤ 3072) (h0 : 0 ≤ i.toInt) (h1 : i.toInt + 6 ≤ (X.1 : Int)) (hW : t_LE c sh gi gl gr) (kk : ∀ sh2 gi2 gl2 gr2, t_LE (c + 1) sh2 gi2 gl2 gr2 → x_Ev X 1000 n_L_law 1621 [(3, .int i), (2, .ref 69), (1, .ref 0), (0, .retAddr 30)] [] (sh2, gi2, gl2, gr2) P) : x_Ev X 1000 n_L_law 851 [(3, .int i), (2, .ref 69), (1, .ref 0), (0, .retAddr 30)] [] (sh, gi, gl, gr) P := by
  obtain ⟨⟨⟨⟨⟨hI, hH, hJ, hz1, hz2⟩, hR, h7⟩, hT⟩, hD⟩, hN⟩ := hW
  have hk1 : (i + 1).toInt = i.toInt + 1 := t_ik rfl h0 (by omega) (by decide)
  obtain ⟨A1, hA1⟩ : ∃ v, X.2 (i + 1).toNatClampNeg = v := ⟨_, rfl⟩
  have hi6 : i.toInt ≤ 3066 := by omega
  have hm12 := hI.b (hI.wf.s (k := 0) rfl) (t_bdK rfl : t_bd 10 12 = some (0, 3))
  refine ev_loc f_L_law (nx := 852) rfl rfl rfl rfl ?_
  refine ev_loc f_L_law (nx := 853) rfl rfl rfl rfl ?_
  refine ev_loc f_L_law (nx := 854) rfl rfl rfl rfl ?_
  refine ev_ic f_L_law (nx := 855) (v := 1) rfl (by decide) rfl ?_
  refine ev_alu f_L_law (nx := 856) rfl rfl rfl rfl ?_
  refine ev_scx f_L_law (nx := 857) (w := A1) rfl (by rw [hk1]; omega) (by rw [hk1]; omega) hA1 rfl ?_
  refine ev_lwc f_L_law (nx := 860) rfl rfl rfl rfl rfl rfl rfl (x_Me.up (c_h_lasts (d := 0) hI (A1)) (by omega)) rfl ?_
  rintro _ _ ⟨g1, l1, r1, rfl, hI1, hX1, x1, rfl, -, -⟩
  have hJ1 := t_J_ext hJ (hX1.1 69 75 rfl).1 (fun j => (hX1.1 70 j rfl).1)
  have f1 := t_F_X hX1
  refine ev_alu f_L_law (nx := 861) rfl rfl rfl rfl ?_
  refine ev_loc f_L_law (nx := 862) rfl rfl rfl rfl ?_
  refine ev_loc f_L_law (nx := 863) rfl rfl rfl rfl ?_
  refine ev_loc f_L_law (nx := 864) rfl rfl rfl rfl ?_
  refine ev_ic f_L_law (nx := 865) (v := 1) rfl (by decide) rfl ?_
  refine ev_alu f_L_law (nx := 866) rfl rfl rfl rfl ?_
  refine ev_scx f_L_law (nx := 867) (w := A1) rfl (by rw [hk1]; omega) (by rw [hk1]; omega) hA1 rfl ?_
  have hm0 : ((0 : Nat) : Int) ≤ (g1 69 75).toInt := (hI1.b (hI1.wf.s (k := 69) rfl) (t_bdK rfl : t_bd 11 75 = some (0, 3))).1
  have hm3 := (hI1.b (hI1.wf.s (k := 69) rfl) (t_bdK rfl : t_bd 11 75 = some (0, 3))).2
  refine ev_lwc f_L_law (nx := 870) rfl rfl rfl rfl rfl rfl rfl (x_Me.up (c_m_lasts (d := 0) hI1 (A1)) (by omega)) rfl ?_
  rintro _ _ ⟨g2, l2, r2, rfl, hI2, hX2, x2, rfl, -, -⟩
  have hJ2 := t_J_ext hJ1 (hX2.1 69 75 rfl).1 (fun j => (hX2.1 70 j rfl).1)
  have f2 := t_F_X hX2
  have hR2 : t_R g2 r2 := t_L_gen hR f1 f2 (by decide +kernel) (by decide +kernel)
  have h72 := t_L_g7 h7 f1 f2 (by decide +kernel)
  have hT2 : t_TP g2 := t_TP_same hT f1 f2 (by decide +kernel) rfl rfl
  have hD2 := t_DR_same hD hX1 hX2 (by decide +kernel) (fun j hj => (hX2.1 70 j (t_nG (lo := 0) (hi := 1400) rfl (Nat.zero_le _) hj)).1) hm12.2
  have hN1 : (g1 69 46).toInt = -1 := t_N46a hN f1 (by decide +kernel)
  have hN2 : (g2 69 46).toInt = -1 := t_N46 hN f1 f2 (by decide +kernel)
  refine ev_alu f_L_law (nx := 871) rfl rfl rfl rfl ?_
  refine ev_jmp f_L_law (nx := 1621) rfl rfl rfl ?_
  exact kk _ _ _ _ ⟨⟨⟨⟨⟨hI2, hH, hJ2, by omega, by omega⟩, hR2, h72⟩, hT2⟩, hD2⟩, hN2⟩
set_option maxRecDepth 20000 in
theorem lc_20 {X : x_Ext} {c : Nat} {i : Int32} {sh : List (Nat ⊕ (Nat × Nat))} {gi : Nat → Nat → Int32} {gl : Nat → Nat → Int64} {gr : Nat → Nat → Value} {P : Option Value → x_G → Prop} (hL : X.1 ≤ 3072) (h0 : 0 ≤ i.toInt) (h1 : i.toInt + 6 ≤ (X.1 : Int)) (hW : t_LE c sh gi gl gr) (kk : ∀ sh2 gi2 gl2 gr2, t_LE (c + 1) sh2 gi2 gl2 gr2 → x_Ev X 1000 n_L_law 1621 [(3, .int i), (2, .ref 69), (1, .ref 0), (0, .retAddr 30)] [] (sh2, gi2, gl2, gr2) P) : x_Ev X 1000 n_L_law 874 [(3, .int i), (2, .ref 69), (1, .ref 0), (0, .retAddr 30)] [] (sh, gi, gl, gr) P := by
  obtain ⟨⟨⟨⟨⟨hI, hH, hJ, hz1, hz2⟩, hR, h7⟩, hT⟩, hD⟩, hN⟩ := hW
  have hk1 : (i + 1).toInt = i.toInt + 1 := t_ik rfl h0 (by omega) (by decide)
  obtain ⟨A1, hA1⟩ : ∃ v, X.2 (i + 1).toNatClampNeg = v := ⟨_, rfl⟩
  have hk2 : (i + 2).toInt = i.toInt + 2 := t_ik rfl h0 (by omega) (by decide)
  obtain ⟨A2, hA2⟩ : ∃ v, X.2 (i + 2).toNatClampNeg = v := ⟨_, rfl⟩
  have hi6 : i.toInt ≤ 3066 := by omega
  have hm12 := hI.b (hI.wf.s (k := 0) rfl) (t_bdK rfl : t_bd 10 12 = some (0, 3))
  refine ev_loc f_L_law (nx := 875) rfl rfl rfl rfl ?_
  refine ev_loc f_L_law (nx := 876) rfl rfl rfl rfl ?_
  refine ev_loc f_L_law (nx := 877) rfl rfl rfl rfl ?_
  refine ev_ic f_L_law (nx := 878) (v := 1) rfl (by decide) rfl ?_
  refine ev_alu f_L_law (nx := 879) rfl rfl rfl rfl ?_
  refine ev_scx f_L_law (nx := 880) (w := A1) rfl (by rw [hk1]; omega) (by rw [hk1]; omega) hA1 rfl ?_
  refine ev_loc f_L_law (nx := 881) rfl rfl rfl rfl ?_
  refine ev_loc f_L_law (nx := 882) rfl rfl rfl rfl ?_
  refine ev_ic f_L_law (nx := 883) (v := 2) rfl (by decide) rfl ?_
  refine ev_alu f_L_law (nx := 884) rfl rfl rfl rfl ?_
  refine ev_scx f_L_law (nx := 885) (w := A2) rfl (by rw [hk2]; omega) (by rw [hk2]; omega) hA2 rfl ?_
  refine ev_lwc f_L_law (nx := 888) rfl rfl rfl rfl rfl rfl rfl (x_Me.up (c_h_far (d := 0) hI (A1) (A2)) (by omega)) rfl ?_
  rintro _ _ ⟨g1, l1, r1, rfl, hI1, hX1, x1, rfl, -, -⟩
  have hJ1 := t_J_ext hJ (hX1.1 69 75 rfl).1 (fun j => (hX1.1 70 j rfl).1)
  have f1 := t_F_X hX1
  refine ev_alu f_L_law (nx := 889) rfl rfl rfl rfl ?_
  refine ev_loc f_L_law (nx := 890) rfl rfl rfl rfl ?_
  refine ev_loc f_L_law (nx := 891) rfl rfl rfl rfl ?_
  refine ev_loc f_L_law (nx := 892) rfl rfl rfl rfl ?_
  refine ev_ic f_L_law (nx := 893) (v := 1) rfl (by decide) rfl ?_
  refine ev_alu f_L_law (nx := 894) rfl rfl rfl rfl ?_
  refine ev_scx f_L_law (nx := 895) (w := A1) rfl (by rw [hk1]; omega) (by rw [hk1]; omega) hA1 rfl ?_
  refine ev_loc f_L_law (nx := 896) rfl rfl rfl rfl ?_
  refine ev_loc f_L_law (nx := 897) rfl rfl rfl rfl ?_
  refine ev_ic f_L_law (nx := 898) (v := 2) rfl (by decide) rfl ?_
  refine ev_alu f_L_law (nx := 899) rfl rfl rfl rfl ?_
  refine ev_scx f_L_law (nx := 900) (w := A2) rfl (by rw [hk2]; omega) (by rw [hk2]; omega) hA2 rfl ?_
  have hm0 : ((0 : Nat) : Int) ≤ (g1 69 75).toInt := (hI1.b (hI1.wf.s (k := 69) rfl) (t_bdK rfl : t_bd 11 75 = some (0, 3))).1
  have hm3 := (hI1.b (hI1.wf.s (k := 69) rfl) (t_bdK rfl : t_bd 11 75 = some (0, 3))).2
  refine ev_lwc f_L_law (nx := 903) rfl rfl rfl rfl rfl rfl rfl (x_Me.up (c_m_far (d := 0) hI1 (A1) (A2)) (by omega)) rfl ?_
  rintro _ _ ⟨g2, l2, r2, rfl, hI2, hX2, x2, rfl, -, -⟩
  have hJ2 := t_J_ext hJ1 (hX2.1 69 75 rfl).1 (fun j => (hX2.1 70 j rfl).1)
  have f2 := t_F_X hX2
  have hR2 : t_R g2 r2 := t_L_gen hR f1 f2 (by decide +kernel) (by decide +kernel)
  have h72 := t_L_g7 h7 f1 f2 (by decide +kernel)
  have hT2 : t_TP g2 := t_TP_same hT f1 f2 (by decide +kernel) rfl rfl
  have hD2 := t_DR_same hD hX1 hX2 (by decide +kernel) (fun j hj => (hX2.1 70 j (t_nG (lo := 0) (hi := 1400) rfl (Nat.zero_le _) hj)).1) hm12.2
  have hN1 : (g1 69 46).toInt = -1 := t_N46a hN f1 (by decide +kernel)
  have hN2 : (g2 69 46).toInt = -1 := t_N46 hN f1 f2 (by decide +kernel)
  refine ev_alu f_L_law (nx := 904) rfl rfl rfl rfl ?_
  refine ev_jmp f_L_law (nx := 1621) rfl rfl rfl ?_
  exact kk _ _ _ _ ⟨⟨⟨⟨⟨hI2, hH, hJ2, by omega, by omega⟩, hR2, h72⟩, hT2⟩, hD2⟩, hN2⟩
set_option maxRecDepth 20000 in
theorem lc_21 {X : x_Ext} {c : Nat} {i : Int32} {sh : List (Nat ⊕ (Nat × Nat))} {gi : Nat → Nat → Int32} {gl : Nat → Nat → Int64} {gr : Nat → Nat → Value} {P : Option Value → x_G → Prop} (hL : X.1 ≤ 3072) (h0 : 0 ≤ i.toInt) (h1 : i.toInt + 6 ≤ (X.1 : Int)) (hW : t_LE c sh gi gl gr) (kk : ∀ sh2 gi2 gl2 gr2, t_LE (c + 1) sh2 gi2 gl2 gr2 → x_Ev X 1000 n_L_law 1621 [(3, .int i), (2, .ref 69), (1, .ref 0), (0, .retAddr 30)] [] (sh2, gi2, gl2, gr2) P) : x_Ev X 1000 n_L_law 907 [(3, .int i), (2, .ref 69), (1, .ref 0), (0, .retAddr 30)] [] (sh, gi, gl, gr) P := by
  obtain ⟨⟨⟨⟨⟨hI, hH, hJ, hz1, hz2⟩, hR, h7⟩, hT⟩, hD⟩, hN⟩ := hW
  have hk1 : (i + 1).toInt = i.toInt + 1 := t_ik rfl h0 (by omega) (by decide)
  obtain ⟨A1, hA1⟩ : ∃ v, X.2 (i + 1).toNatClampNeg = v := ⟨_, rfl⟩
  have hk2 : (i + 2).toInt = i.toInt + 2 := t_ik rfl h0 (by omega) (by decide)
  obtain ⟨A2, hA2⟩ : ∃ v, X.2 (i + 2).toNatClampNeg = v := ⟨_, rfl⟩
  have hi6 : i.toInt ≤ 3066 := by omega
  have hm12 := hI.b (hI.wf.s (k := 0) rfl) (t_bdK rfl : t_bd 10 12 = some (0, 3))
  refine ev_loc f_L_law (nx := 908) rfl rfl rfl rfl ?_
  refine ev_loc f_L_law (nx := 909) rfl rfl rfl rfl ?_
  refine ev_loc f_L_law (nx := 910) rfl rfl rfl rfl ?_
  refine ev_ic f_L_law (nx := 911) (v := 1) rfl (by decide) rfl ?_
  refine ev_alu f_L_law (nx := 912) rfl rfl rfl rfl ?_
  refine ev_scx f_L_law (nx := 913) (w := A1) rfl (by rw [hk1]; omega) (by rw [hk1]; omega) hA1 rfl ?_
  refine ev_alu f_L_law (nx := 914) rfl rfl rfl rfl ?_
  refine ev_bp f_L_law (nx := 916) (v := 32) rfl (by decide) rfl ?_
  refine ev_alu f_L_law (nx := 917) rfl rfl rfl rfl ?_
  refine ev_loc f_L_law (nx := 918) rfl rfl rfl rfl ?_
  refine ev_loc f_L_law (nx := 919) rfl rfl rfl rfl ?_
  refine ev_ic f_L_law (nx := 920) (v := 2) rfl (by decide) rfl ?_
  refine ev_alu f_L_law (nx := 921) rfl rfl rfl rfl ?_
  refine ev_scx f_L_law (nx := 922) (w := A2) rfl (by rw [hk2]; omega) (by rw [hk2]; omega) hA2 rfl ?_
  refine ev_alu f_L_law (nx := 923) rfl rfl rfl rfl ?_
  refine ev_ldL f_L_law (nx := 926) (v := 4294967295) rfl (by decide) rfl ?_
  refine ev_alu f_L_law (nx := 927) rfl rfl rfl rfl ?_
  refine ev_alu f_L_law (nx := 928) rfl rfl rfl rfl ?_
  refine ev_lwc f_L_law (nx := 931) rfl rfl rfl rfl rfl rfl rfl (x_Me.up (c_h_readings (d := 0) hI _) (by omega)) rfl ?_
  rintro _ _ ⟨g1, l1, r1, rfl, hI1, hX1, x1, rfl, -, -⟩
  have hJ1 := t_J_ext hJ (hX1.1 69 75 rfl).1 (fun j => (hX1.1 70 j rfl).1)
  have f1 := t_F_X hX1
  refine ev_alu f_L_law (nx := 932) rfl rfl rfl rfl ?_
  refine ev_loc f_L_law (nx := 933) rfl rfl rfl rfl ?_
  refine ev_loc f_L_law (nx := 934) rfl rfl rfl rfl ?_
  refine ev_loc f_L_law (nx := 935) rfl rfl rfl rfl ?_
  refine ev_ic f_L_law (nx := 936) (v := 1) rfl (by decide) rfl ?_
  refine ev_alu f_L_law (nx := 937) rfl rfl rfl rfl ?_
  refine ev_scx f_L_law (nx := 938) (w := A1) rfl (by rw [hk1]; omega) (by rw [hk1]; omega) hA1 rfl ?_
  refine ev_alu f_L_law (nx := 939) rfl rfl rfl rfl ?_
  refine ev_bp f_L_law (nx := 941) (v := 32) rfl (by decide) rfl ?_
  refine ev_alu f_L_law (nx := 942) rfl rfl rfl rfl ?_
  refine ev_loc f_L_law (nx := 943) rfl rfl rfl rfl ?_
  refine ev_loc f_L_law (nx := 944) rfl rfl rfl rfl ?_
  refine ev_ic f_L_law (nx := 945) (v := 2) rfl (by decide) rfl ?_
  refine ev_alu f_L_law (nx := 946) rfl rfl rfl rfl ?_
  refine ev_scx f_L_law (nx := 947) (w := A2) rfl (by rw [hk2]; omega) (by rw [hk2]; omega) hA2 rfl ?_
  refine ev_alu f_L_law (nx := 948) rfl rfl rfl rfl ?_
  refine ev_ldL f_L_law (nx := 951) (v := 4294967295) rfl (by decide) rfl ?_
  refine ev_alu f_L_law (nx := 952) rfl rfl rfl rfl ?_
  refine ev_alu f_L_law (nx := 953) rfl rfl rfl rfl ?_
  have hm0 : ((0 : Nat) : Int) ≤ (g1 69 75).toInt := (hI1.b (hI1.wf.s (k := 69) rfl) (t_bdK rfl : t_bd 11 75 = some (0, 3))).1
  have hm3 := (hI1.b (hI1.wf.s (k := 69) rfl) (t_bdK rfl : t_bd 11 75 = some (0, 3))).2
  refine ev_lwc f_L_law (nx := 956) rfl rfl rfl rfl rfl rfl rfl (x_Me.up (c_m_readings (d := 0) hI1 _) (by omega)) rfl ?_
  rintro _ _ ⟨g2, l2, r2, rfl, hI2, hX2, x2, rfl, -, -⟩
  have hJ2 := t_J_ext hJ1 (hX2.1 69 75 rfl).1 (fun j => (hX2.1 70 j rfl).1)
  have f2 := t_F_X hX2
  have hR2 : t_R g2 r2 := t_L_gen hR f1 f2 (by decide +kernel) (by decide +kernel)
  have h72 := t_L_g7 h7 f1 f2 (by decide +kernel)
  have hT2 : t_TP g2 := t_TP_same hT f1 f2 (by decide +kernel) rfl rfl
  have hD2 := t_DR_same hD hX1 hX2 (by decide +kernel) (fun j hj => (hX2.1 70 j (t_nG (lo := 0) (hi := 1400) rfl (Nat.zero_le _) hj)).1) hm12.2
  have hN1 : (g1 69 46).toInt = -1 := t_N46a hN f1 (by decide +kernel)
  have hN2 : (g2 69 46).toInt = -1 := t_N46 hN f1 f2 (by decide +kernel)
  refine ev_alu f_L_law (nx := 957) rfl rfl rfl rfl ?_
  refine ev_jmp f_L_law (nx := 1621) rfl rfl rfl ?_
  exact kk _ _ _ _ ⟨⟨⟨⟨⟨hI2, hH, hJ2, by omega, by omega⟩, hR2, h72⟩, hT2⟩, hD2⟩, hN2⟩
set_option maxRecDepth 20000 in
theorem lc_22 {X : x_Ext} {c : Nat} {i : Int32} {sh : List (Nat ⊕ (Nat × Nat))} {gi : Nat → Nat → Int32} {gl : Nat → Nat → Int64} {gr : Nat → Nat → Value} {P : Option Value → x_G → Prop} (hL : X.1 ≤ 3072) (h0 : 0 ≤ i.toInt) (h1 : i.toInt + 6 ≤ (X.1 : Int)) (hW : t_LE c sh gi gl gr) (kk : ∀ sh2 gi2 gl2 gr2, t_LE (c + 1) sh2 gi2 gl2 gr2 → x_Ev X 1000 n_L_law 1621 [(3, .int i), (2, .ref 69), (1, .ref 0), (0, .retAddr 30)] [] (sh2, gi2, gl2, gr2) P) : x_Ev X 1000 n_L_law 960 [(3, .int i), (2, .ref 69), (1, .ref 0), (0, .retAddr 30)] [] (sh, gi, gl, gr) P := by
  obtain ⟨⟨⟨⟨⟨hI, hH, hJ, hz1, hz2⟩, hR, h7⟩, hT⟩, hD⟩, hN⟩ := hW
  have hk1 : (i + 1).toInt = i.toInt + 1 := t_ik rfl h0 (by omega) (by decide)
  obtain ⟨A1, hA1⟩ : ∃ v, X.2 (i + 1).toNatClampNeg = v := ⟨_, rfl⟩
  have hk2 : (i + 2).toInt = i.toInt + 2 := t_ik rfl h0 (by omega) (by decide)
  obtain ⟨A2, hA2⟩ : ∃ v, X.2 (i + 2).toNatClampNeg = v := ⟨_, rfl⟩
  have hi6 : i.toInt ≤ 3066 := by omega
  have hm12 := hI.b (hI.wf.s (k := 0) rfl) (t_bdK rfl : t_bd 10 12 = some (0, 3))
  refine ev_loc f_L_law (nx := 961) rfl rfl rfl rfl ?_
  refine ev_loc f_L_law (nx := 962) rfl rfl rfl rfl ?_
  refine ev_loc f_L_law (nx := 963) rfl rfl rfl rfl ?_
  refine ev_ic f_L_law (nx := 964) (v := 1) rfl (by decide) rfl ?_
  refine ev_alu f_L_law (nx := 965) rfl rfl rfl rfl ?_
  refine ev_scx f_L_law (nx := 966) (w := A1) rfl (by rw [hk1]; omega) (by rw [hk1]; omega) hA1 rfl ?_
  refine ev_loc f_L_law (nx := 967) rfl rfl rfl rfl ?_
  refine ev_loc f_L_law (nx := 968) rfl rfl rfl rfl ?_
  refine ev_ic f_L_law (nx := 969) (v := 2) rfl (by decide) rfl ?_
  refine ev_alu f_L_law (nx := 970) rfl rfl rfl rfl ?_
  refine ev_scx f_L_law (nx := 971) (w := A2) rfl (by rw [hk2]; omega) (by rw [hk2]; omega) hA2 rfl ?_
  refine ev_lwc f_L_law (nx := 974) rfl rfl rfl rfl rfl rfl rfl (x_Me.up (c_h_reading (d := 0) hI (A1) (A2)) (by omega)) rfl ?_
  rintro _ _ ⟨g1, l1, r1, rfl, hI1, hX1, x1, rfl, -, -⟩
  have hJ1 := t_J_ext hJ (hX1.1 69 75 rfl).1 (fun j => (hX1.1 70 j rfl).1)
  have f1 := t_F_X hX1
  refine ev_alu f_L_law (nx := 975) rfl rfl rfl rfl ?_
  refine ev_loc f_L_law (nx := 976) rfl rfl rfl rfl ?_
  refine ev_loc f_L_law (nx := 977) rfl rfl rfl rfl ?_
  refine ev_loc f_L_law (nx := 978) rfl rfl rfl rfl ?_
  refine ev_ic f_L_law (nx := 979) (v := 1) rfl (by decide) rfl ?_
  refine ev_alu f_L_law (nx := 980) rfl rfl rfl rfl ?_
  refine ev_scx f_L_law (nx := 981) (w := A1) rfl (by rw [hk1]; omega) (by rw [hk1]; omega) hA1 rfl ?_
  refine ev_loc f_L_law (nx := 982) rfl rfl rfl rfl ?_
  refine ev_loc f_L_law (nx := 983) rfl rfl rfl rfl ?_
  refine ev_ic f_L_law (nx := 984) (v := 2) rfl (by decide) rfl ?_
  refine ev_alu f_L_law (nx := 985) rfl rfl rfl rfl ?_
  refine ev_scx f_L_law (nx := 986) (w := A2) rfl (by rw [hk2]; omega) (by rw [hk2]; omega) hA2 rfl ?_
  have hm0 : ((0 : Nat) : Int) ≤ (g1 69 75).toInt := (hI1.b (hI1.wf.s (k := 69) rfl) (t_bdK rfl : t_bd 11 75 = some (0, 3))).1
  have hm3 := (hI1.b (hI1.wf.s (k := 69) rfl) (t_bdK rfl : t_bd 11 75 = some (0, 3))).2
  refine ev_lwc f_L_law (nx := 989) rfl rfl rfl rfl rfl rfl rfl (x_Me.up (c_m_reading (d := 0) hI1 (A1) (A2)) (by omega)) rfl ?_
  rintro _ _ ⟨g2, l2, r2, rfl, hI2, hX2, x2, rfl, -, -⟩
  have hJ2 := t_J_ext hJ1 (hX2.1 69 75 rfl).1 (fun j => (hX2.1 70 j rfl).1)
  have f2 := t_F_X hX2
  have hR2 : t_R g2 r2 := t_L_gen hR f1 f2 (by decide +kernel) (by decide +kernel)
  have h72 := t_L_g7 h7 f1 f2 (by decide +kernel)
  have hT2 : t_TP g2 := t_TP_same hT f1 f2 (by decide +kernel) rfl rfl
  have hD2 := t_DR_same hD hX1 hX2 (by decide +kernel) (fun j hj => (hX2.1 70 j (t_nG (lo := 0) (hi := 1400) rfl (Nat.zero_le _) hj)).1) hm12.2
  have hN1 : (g1 69 46).toInt = -1 := t_N46a hN f1 (by decide +kernel)
  have hN2 : (g2 69 46).toInt = -1 := t_N46 hN f1 f2 (by decide +kernel)
  refine ev_alu f_L_law (nx := 990) rfl rfl rfl rfl ?_
  refine ev_jmp f_L_law (nx := 1621) rfl rfl rfl ?_
  exact kk _ _ _ _ ⟨⟨⟨⟨⟨hI2, hH, hJ2, by omega, by omega⟩, hR2, h72⟩, hT2⟩, hD2⟩, hN2⟩
set_option maxRecDepth 20000 in
theorem lc_23 {X : x_Ext} {c : Nat} {i : Int32} {sh : List (Nat ⊕ (Nat × Nat))} {gi : Nat → Nat → Int32} {gl : Nat → Nat → Int64} {gr : Nat → Nat → Value} {P : Option Value → x_G → Prop} (hL : X.1 ≤ 3072) (h0 : 0 ≤ i.toInt) (h1 : i.toInt + 6 ≤ (X.1 : Int)) (hW : t_LE c sh gi gl gr) (kk : ∀ sh2 gi2 gl2 gr2, t_LE (c + 1) sh2 gi2 gl2 gr2 → x_Ev X 1000 n_L_law 1621 [(3, .int i), (2, .ref 69), (1, .ref 0), (0, .retAddr 30)] [] (sh2, gi2, gl2, gr2) P) : x_Ev X 1000 n_L_law 993 [(3, .int i), (2, .ref 69), (1, .ref 0), (0, .retAddr 30)] [] (sh, gi, gl, gr) P := by
  obtain ⟨⟨⟨⟨⟨hI, hH, hJ, hz1, hz2⟩, hR, h7⟩, hT⟩, hD⟩, hN⟩ := hW
  have hk1 : (i + 1).toInt = i.toInt + 1 := t_ik rfl h0 (by omega) (by decide)
  obtain ⟨A1, hA1⟩ : ∃ v, X.2 (i + 1).toNatClampNeg = v := ⟨_, rfl⟩
  have hk2 : (i + 2).toInt = i.toInt + 2 := t_ik rfl h0 (by omega) (by decide)
  obtain ⟨A2, hA2⟩ : ∃ v, X.2 (i + 2).toNatClampNeg = v := ⟨_, rfl⟩
  have hk3 : (i + 3).toInt = i.toInt + 3 := t_ik rfl h0 (by omega) (by decide)
  obtain ⟨A3, hA3⟩ : ∃ v, X.2 (i + 3).toNatClampNeg = v := ⟨_, rfl⟩
  have hi6 : i.toInt ≤ 3066 := by omega
  have hm12 := hI.b (hI.wf.s (k := 0) rfl) (t_bdK rfl : t_bd 10 12 = some (0, 3))
  refine ev_loc f_L_law (nx := 994) rfl rfl rfl rfl ?_
  refine ev_loc f_L_law (nx := 995) rfl rfl rfl rfl ?_
  refine ev_loc f_L_law (nx := 996) rfl rfl rfl rfl ?_
  refine ev_ic f_L_law (nx := 997) (v := 1) rfl (by decide) rfl ?_
  refine ev_alu f_L_law (nx := 998) rfl rfl rfl rfl ?_
  refine ev_scx f_L_law (nx := 999) (w := A1) rfl (by rw [hk1]; omega) (by rw [hk1]; omega) hA1 rfl ?_
  refine ev_alu f_L_law (nx := 1000) rfl rfl rfl rfl ?_
  refine ev_bp f_L_law (nx := 1002) (v := 32) rfl (by decide) rfl ?_
  refine ev_alu f_L_law (nx := 1003) rfl rfl rfl rfl ?_
  refine ev_loc f_L_law (nx := 1004) rfl rfl rfl rfl ?_
  refine ev_loc f_L_law (nx := 1005) rfl rfl rfl rfl ?_
  refine ev_ic f_L_law (nx := 1006) (v := 2) rfl (by decide) rfl ?_
  refine ev_alu f_L_law (nx := 1007) rfl rfl rfl rfl ?_
  refine ev_scx f_L_law (nx := 1008) (w := A2) rfl (by rw [hk2]; omega) (by rw [hk2]; omega) hA2 rfl ?_
  refine ev_alu f_L_law (nx := 1009) rfl rfl rfl rfl ?_
  refine ev_ldL f_L_law (nx := 1012) (v := 4294967295) rfl (by decide) rfl ?_
  refine ev_alu f_L_law (nx := 1013) rfl rfl rfl rfl ?_
  refine ev_alu f_L_law (nx := 1014) rfl rfl rfl rfl ?_
  refine ev_loc f_L_law (nx := 1015) rfl rfl rfl rfl ?_
  refine ev_loc f_L_law (nx := 1016) rfl rfl rfl rfl ?_
  refine ev_ic f_L_law (nx := 1017) (v := 3) rfl (by decide) rfl ?_
  refine ev_alu f_L_law (nx := 1018) rfl rfl rfl rfl ?_
  refine ev_scx f_L_law (nx := 1019) (w := A3) rfl (by rw [hk3]; omega) (by rw [hk3]; omega) hA3 rfl ?_
  refine ev_lwc f_L_law (nx := 1022) rfl rfl rfl rfl rfl rfl rfl (x_Me.up (c_h_doubt (d := 0) hI _ (A3)) (by omega)) rfl ?_
  rintro _ _ ⟨g1, l1, r1, rfl, hI1, hX1, x1, rfl, -, -⟩
  have hJ1 := t_J_ext hJ (hX1.1 69 75 rfl).1 (fun j => (hX1.1 70 j rfl).1)
  have f1 := t_F_X hX1
  refine ev_alu f_L_law (nx := 1023) rfl rfl rfl rfl ?_
  refine ev_loc f_L_law (nx := 1024) rfl rfl rfl rfl ?_
  refine ev_loc f_L_law (nx := 1025) rfl rfl rfl rfl ?_
  refine ev_loc f_L_law (nx := 1026) rfl rfl rfl rfl ?_
  refine ev_ic f_L_law (nx := 1027) (v := 1) rfl (by decide) rfl ?_
  refine ev_alu f_L_law (nx := 1028) rfl rfl rfl rfl ?_
  refine ev_scx f_L_law (nx := 1029) (w := A1) rfl (by rw [hk1]; omega) (by rw [hk1]; omega) hA1 rfl ?_
  refine ev_alu f_L_law (nx := 1030) rfl rfl rfl rfl ?_
  refine ev_bp f_L_law (nx := 1032) (v := 32) rfl (by decide) rfl ?_
  refine ev_alu f_L_law (nx := 1033) rfl rfl rfl rfl ?_
  refine ev_loc f_L_law (nx := 1034) rfl rfl rfl rfl ?_
  refine ev_loc f_L_law (nx := 1035) rfl rfl rfl rfl ?_
  refine ev_ic f_L_law (nx := 1036) (v := 2) rfl (by decide) rfl ?_
  refine ev_alu f_L_law (nx := 1037) rfl rfl rfl rfl ?_
  refine ev_scx f_L_law (nx := 1038) (w := A2) rfl (by rw [hk2]; omega) (by rw [hk2]; omega) hA2 rfl ?_
  refine ev_alu f_L_law (nx := 1039) rfl rfl rfl rfl ?_
  refine ev_ldL f_L_law (nx := 1042) (v := 4294967295) rfl (by decide) rfl ?_
  refine ev_alu f_L_law (nx := 1043) rfl rfl rfl rfl ?_
  refine ev_alu f_L_law (nx := 1044) rfl rfl rfl rfl ?_
  refine ev_loc f_L_law (nx := 1045) rfl rfl rfl rfl ?_
  refine ev_loc f_L_law (nx := 1046) rfl rfl rfl rfl ?_
  refine ev_ic f_L_law (nx := 1047) (v := 3) rfl (by decide) rfl ?_
  refine ev_alu f_L_law (nx := 1048) rfl rfl rfl rfl ?_
  refine ev_scx f_L_law (nx := 1049) (w := A3) rfl (by rw [hk3]; omega) (by rw [hk3]; omega) hA3 rfl ?_
  have hm0 : ((0 : Nat) : Int) ≤ (g1 69 75).toInt := (hI1.b (hI1.wf.s (k := 69) rfl) (t_bdK rfl : t_bd 11 75 = some (0, 3))).1
  have hm3 := (hI1.b (hI1.wf.s (k := 69) rfl) (t_bdK rfl : t_bd 11 75 = some (0, 3))).2
  refine ev_lwc f_L_law (nx := 1052) rfl rfl rfl rfl rfl rfl rfl (x_Me.up (c_m_doubt (d := 0) hI1 _ (A3)) (by omega)) rfl ?_
  rintro _ _ ⟨g2, l2, r2, rfl, hI2, hX2, x2, rfl, -, -⟩
  have hJ2 := t_J_ext hJ1 (hX2.1 69 75 rfl).1 (fun j => (hX2.1 70 j rfl).1)
  have f2 := t_F_X hX2
  have hR2 : t_R g2 r2 := t_L_gen hR f1 f2 (by decide +kernel) (by decide +kernel)
  have h72 := t_L_g7 h7 f1 f2 (by decide +kernel)
  have hT2 : t_TP g2 := t_TP_same hT f1 f2 (by decide +kernel) rfl rfl
  have hD2 := t_DR_same hD hX1 hX2 (by decide +kernel) (fun j hj => (hX2.1 70 j (t_nG (lo := 0) (hi := 1400) rfl (Nat.zero_le _) hj)).1) hm12.2
  have hN1 : (g1 69 46).toInt = -1 := t_N46a hN f1 (by decide +kernel)
  have hN2 : (g2 69 46).toInt = -1 := t_N46 hN f1 f2 (by decide +kernel)
  refine ev_alu f_L_law (nx := 1053) rfl rfl rfl rfl ?_
  refine ev_jmp f_L_law (nx := 1621) rfl rfl rfl ?_
  exact kk _ _ _ _ ⟨⟨⟨⟨⟨hI2, hH, hJ2, by omega, by omega⟩, hR2, h72⟩, hT2⟩, hD2⟩, hN2⟩
set_option maxRecDepth 20000 in
theorem lc_24 {X : x_Ext} {c : Nat} {i : Int32} {sh : List (Nat ⊕ (Nat × Nat))} {gi : Nat → Nat → Int32} {gl : Nat → Nat → Int64} {gr : Nat → Nat → Value} {P : Option Value → x_G → Prop} (hL : X.1 ≤ 3072) (h0 : 0 ≤ i.toInt) (h1 : i.toInt + 6 ≤ (X.1 : Int)) (hW : t_LE c sh gi gl gr) (kk : ∀ sh2 gi2 gl2 gr2, t_LE (c + 1) sh2 gi2 gl2 gr2 → x_Ev X 1000 n_L_law 1621 [(3, .int i), (2, .ref 69), (1, .ref 0), (0, .retAddr 30)] [] (sh2, gi2, gl2, gr2) P) : x_Ev X 1000 n_L_law 1056 [(3, .int i), (2, .ref 69), (1, .ref 0), (0, .retAddr 30)] [] (sh, gi, gl, gr) P := by
  obtain ⟨⟨⟨⟨⟨hI, hH, hJ, hz1, hz2⟩, hR, h7⟩, hT⟩, hD⟩, hN⟩ := hW
  have hi6 : i.toInt ≤ 3066 := by omega
  have hm12 := hI.b (hI.wf.s (k := 0) rfl) (t_bdK rfl : t_bd 10 12 = some (0, 3))
  refine ev_loc f_L_law (nx := 1057) rfl rfl rfl rfl ?_
  refine ev_lwc f_L_law (nx := 1060) rfl rfl rfl rfl rfl rfl rfl (x_Me.up (c_h_alike (d := 0) hI) (by omega)) rfl ?_
  rintro _ _ ⟨g1, l1, r1, rfl, hI1, hX1, x1, rfl, -, -⟩
  have hJ1 := t_J_ext hJ (hX1.1 69 75 rfl).1 (fun j => (hX1.1 70 j rfl).1)
  have f1 := t_F_X hX1
  refine ev_alu f_L_law (nx := 1061) rfl rfl rfl rfl ?_
  refine ev_loc f_L_law (nx := 1062) rfl rfl rfl rfl ?_
  have hm0 : ((0 : Nat) : Int) ≤ (g1 69 75).toInt := (hI1.b (hI1.wf.s (k := 69) rfl) (t_bdK rfl : t_bd 11 75 = some (0, 3))).1
  have hm3 := (hI1.b (hI1.wf.s (k := 69) rfl) (t_bdK rfl : t_bd 11 75 = some (0, 3))).2
  refine ev_lwc f_L_law (nx := 1065) rfl rfl rfl rfl rfl rfl rfl (x_Me.up (c_m_alike (d := 0) hI1) (by omega)) rfl ?_
  rintro _ _ ⟨g2, l2, r2, rfl, hI2, hX2, x2, rfl, -, -⟩
  have hJ2 := t_J_ext hJ1 (hX2.1 69 75 rfl).1 (fun j => (hX2.1 70 j rfl).1)
  have f2 := t_F_X hX2
  have hR2 : t_R g2 r2 := t_L_gen hR f1 f2 (by decide +kernel) (by decide +kernel)
  have h72 := t_L_g7 h7 f1 f2 (by decide +kernel)
  have hT2 : t_TP g2 := t_TP_same hT f1 f2 (by decide +kernel) rfl rfl
  have hD2 := t_DR_same hD hX1 hX2 (by decide +kernel) (fun j hj => (hX2.1 70 j (t_nG (lo := 0) (hi := 1400) rfl (Nat.zero_le _) hj)).1) hm12.2
  have hN1 : (g1 69 46).toInt = -1 := t_N46a hN f1 (by decide +kernel)
  have hN2 : (g2 69 46).toInt = -1 := t_N46 hN f1 f2 (by decide +kernel)
  refine ev_alu f_L_law (nx := 1066) rfl rfl rfl rfl ?_
  refine ev_jmp f_L_law (nx := 1621) rfl rfl rfl ?_
  exact kk _ _ _ _ ⟨⟨⟨⟨⟨hI2, hH, hJ2, by omega, by omega⟩, hR2, h72⟩, hT2⟩, hD2⟩, hN2⟩
set_option maxRecDepth 20000 in
theorem lc_25 {X : x_Ext} {c : Nat} {i : Int32} {sh : List (Nat ⊕ (Nat × Nat))} {gi : Nat → Nat → Int32} {gl : Nat → Nat → Int64} {gr : Nat → Nat → Value} {P : Option Value → x_G → Prop} (hL : X.1 ≤ 3072) (h0 : 0 ≤ i.toInt) (h1 : i.toInt + 6 ≤ (X.1 : Int)) (hW : t_LE c sh gi gl gr) (kk : ∀ sh2 gi2 gl2 gr2, t_LE (c + 1) sh2 gi2 gl2 gr2 → x_Ev X 1000 n_L_law 1621 [(3, .int i), (2, .ref 69), (1, .ref 0), (0, .retAddr 30)] [] (sh2, gi2, gl2, gr2) P) : x_Ev X 1000 n_L_law 1069 [(3, .int i), (2, .ref 69), (1, .ref 0), (0, .retAddr 30)] [] (sh, gi, gl, gr) P := by
  obtain ⟨⟨⟨⟨⟨hI, hH, hJ, hz1, hz2⟩, hR, h7⟩, hT⟩, hD⟩, hN⟩ := hW
  have hk1 : (i + 1).toInt = i.toInt + 1 := t_ik rfl h0 (by omega) (by decide)
  obtain ⟨A1, hA1⟩ : ∃ v, X.2 (i + 1).toNatClampNeg = v := ⟨_, rfl⟩
  have hk2 : (i + 2).toInt = i.toInt + 2 := t_ik rfl h0 (by omega) (by decide)
  obtain ⟨A2, hA2⟩ : ∃ v, X.2 (i + 2).toNatClampNeg = v := ⟨_, rfl⟩
  have hk3 : (i + 3).toInt = i.toInt + 3 := t_ik rfl h0 (by omega) (by decide)
  obtain ⟨A3, hA3⟩ : ∃ v, X.2 (i + 3).toNatClampNeg = v := ⟨_, rfl⟩
  have hi6 : i.toInt ≤ 3066 := by omega
  have hm12 := hI.b (hI.wf.s (k := 0) rfl) (t_bdK rfl : t_bd 10 12 = some (0, 3))
  refine ev_loc f_L_law (nx := 1070) rfl rfl rfl rfl ?_
  refine ev_loc f_L_law (nx := 1071) rfl rfl rfl rfl ?_
  refine ev_loc f_L_law (nx := 1072) rfl rfl rfl rfl ?_
  refine ev_ic f_L_law (nx := 1073) (v := 1) rfl (by decide) rfl ?_
  refine ev_alu f_L_law (nx := 1074) rfl rfl rfl rfl ?_
  refine ev_scx f_L_law (nx := 1075) (w := A1) rfl (by rw [hk1]; omega) (by rw [hk1]; omega) hA1 rfl ?_
  refine ev_loc f_L_law (nx := 1076) rfl rfl rfl rfl ?_
  refine ev_loc f_L_law (nx := 1077) rfl rfl rfl rfl ?_
  refine ev_ic f_L_law (nx := 1078) (v := 2) rfl (by decide) rfl ?_
  refine ev_alu f_L_law (nx := 1079) rfl rfl rfl rfl ?_
  refine ev_scx f_L_law (nx := 1080) (w := A2) rfl (by rw [hk2]; omega) (by rw [hk2]; omega) hA2 rfl ?_
  refine ev_loc f_L_law (nx := 1081) rfl rfl rfl rfl ?_
  refine ev_loc f_L_law (nx := 1082) rfl rfl rfl rfl ?_
  refine ev_ic f_L_law (nx := 1083) (v := 3) rfl (by decide) rfl ?_
  refine ev_alu f_L_law (nx := 1084) rfl rfl rfl rfl ?_
  refine ev_scx f_L_law (nx := 1085) (w := A3) rfl (by rw [hk3]; omega) (by rw [hk3]; omega) hA3 rfl ?_
  refine ev_lwc f_L_law (nx := 1088) rfl rfl rfl rfl rfl rfl rfl (x_Me.up (c_h_code (d := 0) hI (A1) (A2) (A3)) (by omega)) rfl ?_
  rintro _ _ ⟨g1, l1, r1, rfl, hI1, hX1, x1, rfl, -, -⟩
  have hJ1 := t_J_ext hJ (hX1.1 69 75 rfl).1 (fun j => (hX1.1 70 j rfl).1)
  have f1 := t_F_X hX1
  refine ev_alu f_L_law (nx := 1089) rfl rfl rfl rfl ?_
  refine ev_loc f_L_law (nx := 1090) rfl rfl rfl rfl ?_
  refine ev_loc f_L_law (nx := 1091) rfl rfl rfl rfl ?_
  refine ev_loc f_L_law (nx := 1092) rfl rfl rfl rfl ?_
  refine ev_ic f_L_law (nx := 1093) (v := 1) rfl (by decide) rfl ?_
  refine ev_alu f_L_law (nx := 1094) rfl rfl rfl rfl ?_
  refine ev_scx f_L_law (nx := 1095) (w := A1) rfl (by rw [hk1]; omega) (by rw [hk1]; omega) hA1 rfl ?_
  refine ev_loc f_L_law (nx := 1096) rfl rfl rfl rfl ?_
  refine ev_loc f_L_law (nx := 1097) rfl rfl rfl rfl ?_
  refine ev_ic f_L_law (nx := 1098) (v := 2) rfl (by decide) rfl ?_
  refine ev_alu f_L_law (nx := 1099) rfl rfl rfl rfl ?_
  refine ev_scx f_L_law (nx := 1100) (w := A2) rfl (by rw [hk2]; omega) (by rw [hk2]; omega) hA2 rfl ?_
  refine ev_loc f_L_law (nx := 1101) rfl rfl rfl rfl ?_
  refine ev_loc f_L_law (nx := 1102) rfl rfl rfl rfl ?_
  refine ev_ic f_L_law (nx := 1103) (v := 3) rfl (by decide) rfl ?_
  refine ev_alu f_L_law (nx := 1104) rfl rfl rfl rfl ?_
  refine ev_scx f_L_law (nx := 1105) (w := A3) rfl (by rw [hk3]; omega) (by rw [hk3]; omega) hA3 rfl ?_
  have hm0 : ((0 : Nat) : Int) ≤ (g1 69 75).toInt := (hI1.b (hI1.wf.s (k := 69) rfl) (t_bdK rfl : t_bd 11 75 = some (0, 3))).1
  have hm3 := (hI1.b (hI1.wf.s (k := 69) rfl) (t_bdK rfl : t_bd 11 75 = some (0, 3))).2
  refine ev_lwc f_L_law (nx := 1108) rfl rfl rfl rfl rfl rfl rfl (x_Me.up (c_m_code (d := 0) hI1 (A1) (A2) (A3)) (by omega)) rfl ?_
  rintro _ _ ⟨g2, l2, r2, rfl, hI2, hX2, x2, rfl, -, -⟩
  have hJ2 : t_J g2 := t_J_0 hI1 hJ1 (hX2.1 69 75 rfl).1 hm3 (Or.inl (fun j h2 => (hX2.1 70 j (t_nG (lo := 0) (hi := 1400) rfl (Nat.zero_le _) (by omega))).1)) (fun j h1 h2 => (hX2.1 70 j (t_nG (lo := 0) (hi := 1400) rfl (Nat.zero_le _) h2)).1)
  have f2 := t_F_X hX2
  have hR2 : t_R g2 r2 := t_L_gen hR f1 f2 (by decide +kernel) (by decide +kernel)
  have h72 := t_L_g7 h7 f1 f2 (by decide +kernel)
  have hT2 : t_TP g2 := t_TP_same hT f1 f2 (by decide +kernel) rfl rfl
  have hD2 := t_DR_same hD hX1 hX2 (by decide +kernel) (fun j hj => (hX2.1 70 j (t_nG (lo := 0) (hi := 1400) rfl (Nat.zero_le _) hj)).1) hm12.2
  have hN1 : (g1 69 46).toInt = -1 := t_N46a hN f1 (by decide +kernel)
  have hN2 : (g2 69 46).toInt = -1 := t_N46 hN f1 f2 (by decide +kernel)
  refine ev_alu f_L_law (nx := 1109) rfl rfl rfl rfl ?_
  refine ev_jmp f_L_law (nx := 1621) rfl rfl rfl ?_
  exact kk _ _ _ _ ⟨⟨⟨⟨⟨hI2, hH, hJ2, by omega, by omega⟩, hR2, h72⟩, hT2⟩, hD2⟩, hN2⟩
set_option maxRecDepth 20000 in
theorem lc_26 {X : x_Ext} {c : Nat} {i : Int32} {sh : List (Nat ⊕ (Nat × Nat))} {gi : Nat → Nat → Int32} {gl : Nat → Nat → Int64} {gr : Nat → Nat → Value} {P : Option Value → x_G → Prop} (hL : X.1 ≤ 3072) (h0 : 0 ≤ i.toInt) (h1 : i.toInt + 6 ≤ (X.1 : Int)) (hW : t_LE c sh gi gl gr) (kk : ∀ sh2 gi2 gl2 gr2, t_LE (c + 1) sh2 gi2 gl2 gr2 → x_Ev X 1000 n_L_law 1621 [(3, .int i), (2, .ref 69), (1, .ref 0), (0, .retAddr 30)] [] (sh2, gi2, gl2, gr2) P) : x_Ev X 1000 n_L_law 1112 [(3, .int i), (2, .ref 69), (1, .ref 0), (0, .retAddr 30)] [] (sh, gi, gl, gr) P := by
  obtain ⟨⟨⟨⟨⟨hI, hH, hJ, hz1, hz2⟩, hR, h7⟩, hT⟩, hD⟩, hN⟩ := hW
  have hk1 : (i + 1).toInt = i.toInt + 1 := t_ik rfl h0 (by omega) (by decide)
  obtain ⟨A1, hA1⟩ : ∃ v, X.2 (i + 1).toNatClampNeg = v := ⟨_, rfl⟩
  have hi6 : i.toInt ≤ 3066 := by omega
  have hm12 := hI.b (hI.wf.s (k := 0) rfl) (t_bdK rfl : t_bd 10 12 = some (0, 3))
  refine ev_loc f_L_law (nx := 1113) rfl rfl rfl rfl ?_
  refine ev_loc f_L_law (nx := 1114) rfl rfl rfl rfl ?_
  refine ev_loc f_L_law (nx := 1115) rfl rfl rfl rfl ?_
  refine ev_ic f_L_law (nx := 1116) (v := 1) rfl (by decide) rfl ?_
  refine ev_alu f_L_law (nx := 1117) rfl rfl rfl rfl ?_
  refine ev_scx f_L_law (nx := 1118) (w := A1) rfl (by rw [hk1]; omega) (by rw [hk1]; omega) hA1 rfl ?_
  refine ev_lwc f_L_law (nx := 1121) rfl rfl rfl rfl rfl rfl rfl (x_Me.up (c_h_codeAt (d := 0) hI (A1)) (by omega)) rfl ?_
  rintro _ _ ⟨g1, l1, r1, rfl, hI1, hX1, x1, rfl⟩
  have hJ1 := t_J_ext hJ (hX1.1 69 75 rfl).1 (fun j => (hX1.1 70 j rfl).1)
  have f1 := t_F_X hX1
  refine ev_pop2 f_L_law (nx := 1122) rfl rfl ?_
  refine ev_loc f_L_law (nx := 1123) rfl rfl rfl rfl ?_
  refine ev_loc f_L_law (nx := 1124) rfl rfl rfl rfl ?_
  refine ev_loc f_L_law (nx := 1125) rfl rfl rfl rfl ?_
  refine ev_ic f_L_law (nx := 1126) (v := 1) rfl (by decide) rfl ?_
  refine ev_alu f_L_law (nx := 1127) rfl rfl rfl rfl ?_
  refine ev_scx f_L_law (nx := 1128) (w := A1) rfl (by rw [hk1]; omega) (by rw [hk1]; omega) hA1 rfl ?_
  have hm0 : ((0 : Nat) : Int) ≤ (g1 69 75).toInt := (hI1.b (hI1.wf.s (k := 69) rfl) (t_bdK rfl : t_bd 11 75 = some (0, 3))).1
  have hm3 := (hI1.b (hI1.wf.s (k := 69) rfl) (t_bdK rfl : t_bd 11 75 = some (0, 3))).2
  refine ev_lwc f_L_law (nx := 1131) rfl rfl rfl rfl rfl rfl rfl (x_Me.up (c_m_codeAt (d := 0) hI1 (A1)) (by omega)) rfl ?_
  rintro _ _ ⟨g2, l2, r2, rfl, hI2, hX2, x2, rfl⟩
  have hJ2 := t_J_ext hJ1 (hX2.1 69 75 rfl).1 (fun j => (hX2.1 70 j rfl).1)
  have f2 := t_F_X hX2
  have hR2 : t_R g2 r2 := t_L_gen hR f1 f2 (by decide +kernel) (by decide +kernel)
  have h72 := t_L_g7 h7 f1 f2 (by decide +kernel)
  have hT2 : t_TP g2 := t_TP_same hT f1 f2 (by decide +kernel) rfl rfl
  have hD2 := t_DR_same hD hX1 hX2 (by decide +kernel) (fun j hj => (hX2.1 70 j (t_nG (lo := 0) (hi := 1400) rfl (Nat.zero_le _) hj)).1) hm12.2
  have hN1 : (g1 69 46).toInt = -1 := t_N46a hN f1 (by decide +kernel)
  have hN2 : (g2 69 46).toInt = -1 := t_N46 hN f1 f2 (by decide +kernel)
  refine ev_pop2 f_L_law (nx := 1132) rfl rfl ?_
  refine ev_jmp f_L_law (nx := 1621) rfl rfl rfl ?_
  exact kk _ _ _ _ ⟨⟨⟨⟨⟨hI2, hH, hJ2, by omega, by omega⟩, hR2, h72⟩, hT2⟩, hD2⟩, hN2⟩
set_option maxRecDepth 20000 in
theorem lc_27 {X : x_Ext} {c : Nat} {i : Int32} {sh : List (Nat ⊕ (Nat × Nat))} {gi : Nat → Nat → Int32} {gl : Nat → Nat → Int64} {gr : Nat → Nat → Value} {P : Option Value → x_G → Prop} (hL : X.1 ≤ 3072) (h0 : 0 ≤ i.toInt) (h1 : i.toInt + 6 ≤ (X.1 : Int)) (hW : t_LE c sh gi gl gr) (kk : ∀ sh2 gi2 gl2 gr2, t_LE (c + 1) sh2 gi2 gl2 gr2 → x_Ev X 1000 n_L_law 1621 [(3, .int i), (2, .ref 69), (1, .ref 0), (0, .retAddr 30)] [] (sh2, gi2, gl2, gr2) P) : x_Ev X 1000 n_L_law 1135 [(3, .int i), (2, .ref 69), (1, .ref 0), (0, .retAddr 30)] [] (sh, gi, gl, gr) P := by
  obtain ⟨⟨⟨⟨⟨hI, hH, hJ, hz1, hz2⟩, hR, h7⟩, hT⟩, hD⟩, hN⟩ := hW
  have hk1 : (i + 1).toInt = i.toInt + 1 := t_ik rfl h0 (by omega) (by decide)
  obtain ⟨A1, hA1⟩ : ∃ v, X.2 (i + 1).toNatClampNeg = v := ⟨_, rfl⟩
  have hk2 : (i + 2).toInt = i.toInt + 2 := t_ik rfl h0 (by omega) (by decide)
  obtain ⟨A2, hA2⟩ : ∃ v, X.2 (i + 2).toNatClampNeg = v := ⟨_, rfl⟩
  have hi6 : i.toInt ≤ 3066 := by omega
  have hm12 := hI.b (hI.wf.s (k := 0) rfl) (t_bdK rfl : t_bd 10 12 = some (0, 3))
  refine ev_loc f_L_law (nx := 1136) rfl rfl rfl rfl ?_
  refine ev_loc f_L_law (nx := 1137) rfl rfl rfl rfl ?_
  refine ev_loc f_L_law (nx := 1138) rfl rfl rfl rfl ?_
  refine ev_ic f_L_law (nx := 1139) (v := 1) rfl (by decide) rfl ?_
  refine ev_alu f_L_law (nx := 1140) rfl rfl rfl rfl ?_
  refine ev_scx f_L_law (nx := 1141) (w := A1) rfl (by rw [hk1]; omega) (by rw [hk1]; omega) hA1 rfl ?_
  refine ev_alu f_L_law (nx := 1142) rfl rfl rfl rfl ?_
  refine ev_bp f_L_law (nx := 1144) (v := 32) rfl (by decide) rfl ?_
  refine ev_alu f_L_law (nx := 1145) rfl rfl rfl rfl ?_
  refine ev_loc f_L_law (nx := 1146) rfl rfl rfl rfl ?_
  refine ev_loc f_L_law (nx := 1147) rfl rfl rfl rfl ?_
  refine ev_ic f_L_law (nx := 1148) (v := 2) rfl (by decide) rfl ?_
  refine ev_alu f_L_law (nx := 1149) rfl rfl rfl rfl ?_
  refine ev_scx f_L_law (nx := 1150) (w := A2) rfl (by rw [hk2]; omega) (by rw [hk2]; omega) hA2 rfl ?_
  refine ev_alu f_L_law (nx := 1151) rfl rfl rfl rfl ?_
  refine ev_ldL f_L_law (nx := 1154) (v := 4294967295) rfl (by decide) rfl ?_
  refine ev_alu f_L_law (nx := 1155) rfl rfl rfl rfl ?_
  refine ev_alu f_L_law (nx := 1156) rfl rfl rfl rfl ?_
  refine ev_lwc f_L_law (nx := 1159) rfl rfl rfl rfl rfl rfl rfl (x_Me.up (c_h_parts (d := 0) hI _) (by omega)) rfl ?_
  rintro _ _ ⟨g1, l1, r1, rfl, hI1, hX1, x1, rfl, -, -⟩
  have hJ1 := t_J_ext hJ (hX1.1 69 75 rfl).1 (fun j => (hX1.1 70 j rfl).1)
  have f1 := t_F_X hX1
  refine ev_alu f_L_law (nx := 1160) rfl rfl rfl rfl ?_
  refine ev_loc f_L_law (nx := 1161) rfl rfl rfl rfl ?_
  refine ev_loc f_L_law (nx := 1162) rfl rfl rfl rfl ?_
  refine ev_loc f_L_law (nx := 1163) rfl rfl rfl rfl ?_
  refine ev_ic f_L_law (nx := 1164) (v := 1) rfl (by decide) rfl ?_
  refine ev_alu f_L_law (nx := 1165) rfl rfl rfl rfl ?_
  refine ev_scx f_L_law (nx := 1166) (w := A1) rfl (by rw [hk1]; omega) (by rw [hk1]; omega) hA1 rfl ?_
  refine ev_alu f_L_law (nx := 1167) rfl rfl rfl rfl ?_
  refine ev_bp f_L_law (nx := 1169) (v := 32) rfl (by decide) rfl ?_
  refine ev_alu f_L_law (nx := 1170) rfl rfl rfl rfl ?_
  refine ev_loc f_L_law (nx := 1171) rfl rfl rfl rfl ?_
  refine ev_loc f_L_law (nx := 1172) rfl rfl rfl rfl ?_
  refine ev_ic f_L_law (nx := 1173) (v := 2) rfl (by decide) rfl ?_
  refine ev_alu f_L_law (nx := 1174) rfl rfl rfl rfl ?_
  refine ev_scx f_L_law (nx := 1175) (w := A2) rfl (by rw [hk2]; omega) (by rw [hk2]; omega) hA2 rfl ?_
  refine ev_alu f_L_law (nx := 1176) rfl rfl rfl rfl ?_
  refine ev_ldL f_L_law (nx := 1179) (v := 4294967295) rfl (by decide) rfl ?_
  refine ev_alu f_L_law (nx := 1180) rfl rfl rfl rfl ?_
  refine ev_alu f_L_law (nx := 1181) rfl rfl rfl rfl ?_
  have hm0 : ((0 : Nat) : Int) ≤ (g1 69 75).toInt := (hI1.b (hI1.wf.s (k := 69) rfl) (t_bdK rfl : t_bd 11 75 = some (0, 3))).1
  have hm3 := (hI1.b (hI1.wf.s (k := 69) rfl) (t_bdK rfl : t_bd 11 75 = some (0, 3))).2
  refine ev_lwc f_L_law (nx := 1184) rfl rfl rfl rfl rfl rfl rfl (x_Me.up (c_m_parts (d := 0) hI1 _) (by omega)) rfl ?_
  rintro _ _ ⟨g2, l2, r2, rfl, hI2, hX2, x2, rfl, -, -⟩
  have hJ2 := t_J_ext hJ1 (hX2.1 69 75 rfl).1 (fun j => (hX2.1 70 j rfl).1)
  have f2 := t_F_X hX2
  have hR2 : t_R g2 r2 := t_L_gen hR f1 f2 (by decide +kernel) (by decide +kernel)
  have h72 := t_L_g7 h7 f1 f2 (by decide +kernel)
  have hT2 : t_TP g2 := t_TP_same hT f1 f2 (by decide +kernel) rfl rfl
  have hD2 := t_DR_same hD hX1 hX2 (by decide +kernel) (fun j hj => (hX2.1 70 j (t_nG (lo := 0) (hi := 1400) rfl (Nat.zero_le _) hj)).1) hm12.2
  have hN1 : (g1 69 46).toInt = -1 := t_N46a hN f1 (by decide +kernel)
  have hN2 : (g2 69 46).toInt = -1 := t_N46 hN f1 f2 (by decide +kernel)
  refine ev_alu f_L_law (nx := 1185) rfl rfl rfl rfl ?_
  refine ev_jmp f_L_law (nx := 1621) rfl rfl rfl ?_
  exact kk _ _ _ _ ⟨⟨⟨⟨⟨hI2, hH, hJ2, by omega, by omega⟩, hR2, h72⟩, hT2⟩, hD2⟩, hN2⟩
set_option maxRecDepth 20000 in
theorem lc_28 {X : x_Ext} {c : Nat} {i : Int32} {sh : List (Nat ⊕ (Nat × Nat))} {gi : Nat → Nat → Int32} {gl : Nat → Nat → Int64} {gr : Nat → Nat → Value} {P : Option Value → x_G → Prop} (hL : X.1 ≤ 3072) (h0 : 0 ≤ i.toInt) (h1 : i.toInt + 6 ≤ (X.1 : Int)) (hW : t_LE c sh gi gl gr) (kk : ∀ sh2 gi2 gl2 gr2, t_LE (c + 1) sh2 gi2 gl2 gr2 → x_Ev X 1000 n_L_law 1621 [(3, .int i), (2, .ref 69), (1, .ref 0), (0, .retAddr 30)] [] (sh2, gi2, gl2, gr2) P) : x_Ev X 1000 n_L_law 1188 [(3, .int i), (2, .ref 69), (1, .ref 0), (0, .retAddr 30)] [] (sh, gi, gl, gr) P := by
  obtain ⟨⟨⟨⟨⟨hI, hH, hJ, hz1, hz2⟩, hR, h7⟩, hT⟩, hD⟩, hN⟩ := hW
  have hk1 : (i + 1).toInt = i.toInt + 1 := t_ik rfl h0 (by omega) (by decide)
  obtain ⟨A1, hA1⟩ : ∃ v, X.2 (i + 1).toNatClampNeg = v := ⟨_, rfl⟩
  have hk2 : (i + 2).toInt = i.toInt + 2 := t_ik rfl h0 (by omega) (by decide)
  obtain ⟨A2, hA2⟩ : ∃ v, X.2 (i + 2).toNatClampNeg = v := ⟨_, rfl⟩
  have hi6 : i.toInt ≤ 3066 := by omega
  have hm12 := hI.b (hI.wf.s (k := 0) rfl) (t_bdK rfl : t_bd 10 12 = some (0, 3))
  refine ev_loc f_L_law (nx := 1189) rfl rfl rfl rfl ?_
  refine ev_loc f_L_law (nx := 1190) rfl rfl rfl rfl ?_
  refine ev_loc f_L_law (nx := 1191) rfl rfl rfl rfl ?_
  refine ev_ic f_L_law (nx := 1192) (v := 1) rfl (by decide) rfl ?_
  refine ev_alu f_L_law (nx := 1193) rfl rfl rfl rfl ?_
  refine ev_scx f_L_law (nx := 1194) (w := A1) rfl (by rw [hk1]; omega) (by rw [hk1]; omega) hA1 rfl ?_
  refine ev_loc f_L_law (nx := 1195) rfl rfl rfl rfl ?_
  refine ev_loc f_L_law (nx := 1196) rfl rfl rfl rfl ?_
  refine ev_ic f_L_law (nx := 1197) (v := 2) rfl (by decide) rfl ?_
  refine ev_alu f_L_law (nx := 1198) rfl rfl rfl rfl ?_
  refine ev_scx f_L_law (nx := 1199) (w := A2) rfl (by rw [hk2]; omega) (by rw [hk2]; omega) hA2 rfl ?_
  refine ev_lwc f_L_law (nx := 1202) rfl rfl rfl rfl rfl rfl rfl (x_Me.up (c_h_clearBeats (d := 0) hI (A1) (A2)) (by omega)) rfl ?_
  rintro _ _ ⟨g1, l1, r1, rfl, hI1, hX1, x1, rfl, -, -⟩
  have hJ1 := t_J_ext hJ (hX1.1 69 75 rfl).1 (fun j => (hX1.1 70 j rfl).1)
  have f1 := t_F_X hX1
  refine ev_alu f_L_law (nx := 1203) rfl rfl rfl rfl ?_
  refine ev_loc f_L_law (nx := 1204) rfl rfl rfl rfl ?_
  refine ev_loc f_L_law (nx := 1205) rfl rfl rfl rfl ?_
  refine ev_loc f_L_law (nx := 1206) rfl rfl rfl rfl ?_
  refine ev_ic f_L_law (nx := 1207) (v := 1) rfl (by decide) rfl ?_
  refine ev_alu f_L_law (nx := 1208) rfl rfl rfl rfl ?_
  refine ev_scx f_L_law (nx := 1209) (w := A1) rfl (by rw [hk1]; omega) (by rw [hk1]; omega) hA1 rfl ?_
  refine ev_loc f_L_law (nx := 1210) rfl rfl rfl rfl ?_
  refine ev_loc f_L_law (nx := 1211) rfl rfl rfl rfl ?_
  refine ev_ic f_L_law (nx := 1212) (v := 2) rfl (by decide) rfl ?_
  refine ev_alu f_L_law (nx := 1213) rfl rfl rfl rfl ?_
  refine ev_scx f_L_law (nx := 1214) (w := A2) rfl (by rw [hk2]; omega) (by rw [hk2]; omega) hA2 rfl ?_
  have hm0 : ((0 : Nat) : Int) ≤ (g1 69 75).toInt := (hI1.b (hI1.wf.s (k := 69) rfl) (t_bdK rfl : t_bd 11 75 = some (0, 3))).1
  have hm3 := (hI1.b (hI1.wf.s (k := 69) rfl) (t_bdK rfl : t_bd 11 75 = some (0, 3))).2
  refine ev_lwc f_L_law (nx := 1217) rfl rfl rfl rfl rfl rfl rfl (x_Me.up (c_m_clearBeats (d := 0) hI1 (A1) (A2)) (by omega)) rfl ?_
  rintro _ _ ⟨g2, l2, r2, rfl, hI2, hX2, x2, rfl, -, -⟩
  have hJ2 := t_J_ext hJ1 (hX2.1 69 75 rfl).1 (fun j => (hX2.1 70 j rfl).1)
  have f2 := t_F_X hX2
  have hR2 : t_R g2 r2 := t_L_gen hR f1 f2 (by decide +kernel) (by decide +kernel)
  have h72 := t_L_g7 h7 f1 f2 (by decide +kernel)
  have hT2 : t_TP g2 := t_TP_same hT f1 f2 (by decide +kernel) rfl rfl
  have hD2 := t_DR_same hD hX1 hX2 (by decide +kernel) (fun j hj => (hX2.1 70 j (t_nG (lo := 0) (hi := 1400) rfl (Nat.zero_le _) hj)).1) hm12.2
  have hN1 : (g1 69 46).toInt = -1 := t_N46a hN f1 (by decide +kernel)
  have hN2 : (g2 69 46).toInt = -1 := t_N46 hN f1 f2 (by decide +kernel)
  refine ev_alu f_L_law (nx := 1218) rfl rfl rfl rfl ?_
  refine ev_jmp f_L_law (nx := 1621) rfl rfl rfl ?_
  exact kk _ _ _ _ ⟨⟨⟨⟨⟨hI2, hH, hJ2, by omega, by omega⟩, hR2, h72⟩, hT2⟩, hD2⟩, hN2⟩
set_option maxRecDepth 20000 in
theorem lc_29 {X : x_Ext} {c : Nat} {i : Int32} {sh : List (Nat ⊕ (Nat × Nat))} {gi : Nat → Nat → Int32} {gl : Nat → Nat → Int64} {gr : Nat → Nat → Value} {P : Option Value → x_G → Prop} (hL : X.1 ≤ 3072) (h0 : 0 ≤ i.toInt) (h1 : i.toInt + 6 ≤ (X.1 : Int)) (hW : t_LE c sh gi gl gr) (kk : ∀ sh2 gi2 gl2 gr2, t_LE (c + 1) sh2 gi2 gl2 gr2 → x_Ev X 1000 n_L_law 1621 [(3, .int i), (2, .ref 69), (1, .ref 0), (0, .retAddr 30)] [] (sh2, gi2, gl2, gr2) P) : x_Ev X 1000 n_L_law 1221 [(3, .int i), (2, .ref 69), (1, .ref 0), (0, .retAddr 30)] [] (sh, gi, gl, gr) P := by
  obtain ⟨⟨⟨⟨⟨hI, hH, hJ, hz1, hz2⟩, hR, h7⟩, hT⟩, hD⟩, hN⟩ := hW
  have hi6 : i.toInt ≤ 3066 := by omega
  have hm12 := hI.b (hI.wf.s (k := 0) rfl) (t_bdK rfl : t_bd 10 12 = some (0, 3))
  refine ev_loc f_L_law (nx := 1222) rfl rfl rfl rfl ?_
  refine ev_lwc f_L_law (nx := 1225) rfl rfl rfl rfl rfl rfl rfl (x_Me.up (c_h_clearEcho (d := 0) hI) (by omega)) rfl ?_
  rintro _ _ ⟨g1, l1, r1, rfl, hI1, hX1, x1, rfl, -, -⟩
  have hJ1 := t_J_ext hJ (hX1.1 69 75 rfl).1 (fun j => (hX1.1 70 j rfl).1)
  have f1 := t_F_X hX1
  refine ev_alu f_L_law (nx := 1226) rfl rfl rfl rfl ?_
  refine ev_loc f_L_law (nx := 1227) rfl rfl rfl rfl ?_
  have hm0 : ((0 : Nat) : Int) ≤ (g1 69 75).toInt := (hI1.b (hI1.wf.s (k := 69) rfl) (t_bdK rfl : t_bd 11 75 = some (0, 3))).1
  have hm3 := (hI1.b (hI1.wf.s (k := 69) rfl) (t_bdK rfl : t_bd 11 75 = some (0, 3))).2
  refine ev_lwc f_L_law (nx := 1230) rfl rfl rfl rfl rfl rfl rfl (x_Me.up (c_m_clearEcho (d := 0) hI1) (by omega)) rfl ?_
  rintro _ _ ⟨g2, l2, r2, rfl, hI2, hX2, x2, rfl, -, -⟩
  have hJ2 := t_J_ext hJ1 (hX2.1 69 75 rfl).1 (fun j => (hX2.1 70 j rfl).1)
  have f2 := t_F_X hX2
  have hR2 : t_R g2 r2 := t_L_gen hR f1 f2 (by decide +kernel) (by decide +kernel)
  have h72 := t_L_g7 h7 f1 f2 (by decide +kernel)
  have hT2 : t_TP g2 := t_TP_same hT f1 f2 (by decide +kernel) rfl rfl
  have hD2 := t_DR_same hD hX1 hX2 (by decide +kernel) (fun j hj => (hX2.1 70 j (t_nG (lo := 0) (hi := 1400) rfl (Nat.zero_le _) hj)).1) hm12.2
  have hN1 : (g1 69 46).toInt = -1 := t_N46a hN f1 (by decide +kernel)
  have hN2 : (g2 69 46).toInt = -1 := t_N46 hN f1 f2 (by decide +kernel)
  refine ev_alu f_L_law (nx := 1231) rfl rfl rfl rfl ?_
  refine ev_jmp f_L_law (nx := 1621) rfl rfl rfl ?_
  exact kk _ _ _ _ ⟨⟨⟨⟨⟨hI2, hH, hJ2, by omega, by omega⟩, hR2, h72⟩, hT2⟩, hD2⟩, hN2⟩
set_option maxRecDepth 20000 in
theorem lc_30 {X : x_Ext} {c : Nat} {i : Int32} {sh : List (Nat ⊕ (Nat × Nat))} {gi : Nat → Nat → Int32} {gl : Nat → Nat → Int64} {gr : Nat → Nat → Value} {P : Option Value → x_G → Prop} (hL : X.1 ≤ 3072) (h0 : 0 ≤ i.toInt) (h1 : i.toInt + 6 ≤ (X.1 : Int)) (hW : t_LE c sh gi gl gr) (kk : ∀ sh2 gi2 gl2 gr2, t_LE (c + 1) sh2 gi2 gl2 gr2 → x_Ev X 1000 n_L_law 1621 [(3, .int i), (2, .ref 69), (1, .ref 0), (0, .retAddr 30)] [] (sh2, gi2, gl2, gr2) P) : x_Ev X 1000 n_L_law 1234 [(3, .int i), (2, .ref 69), (1, .ref 0), (0, .retAddr 30)] [] (sh, gi, gl, gr) P := by
  obtain ⟨⟨⟨⟨⟨hI, hH, hJ, hz1, hz2⟩, hR, h7⟩, hT⟩, hD⟩, hN⟩ := hW
  have hi6 : i.toInt ≤ 3066 := by omega
  have hm12 := hI.b (hI.wf.s (k := 0) rfl) (t_bdK rfl : t_bd 10 12 = some (0, 3))
  refine ev_loc f_L_law (nx := 1235) rfl rfl rfl rfl ?_
  refine ev_lwc f_L_law (nx := 1238) rfl rfl rfl rfl rfl rfl rfl (x_Me.up (c_h_silent (d := 0) hI) (by omega)) rfl ?_
  rintro _ _ ⟨g1, l1, r1, rfl, hI1, hX1, x1, rfl, -, -⟩
  have hJ1 := t_J_ext hJ (hX1.1 69 75 rfl).1 (fun j => (hX1.1 70 j rfl).1)
  have f1 := t_F_X hX1
  refine ev_alu f_L_law (nx := 1239) rfl rfl rfl rfl ?_
  refine ev_loc f_L_law (nx := 1240) rfl rfl rfl rfl ?_
  have hm0 : ((0 : Nat) : Int) ≤ (g1 69 75).toInt := (hI1.b (hI1.wf.s (k := 69) rfl) (t_bdK rfl : t_bd 11 75 = some (0, 3))).1
  have hm3 := (hI1.b (hI1.wf.s (k := 69) rfl) (t_bdK rfl : t_bd 11 75 = some (0, 3))).2
  refine ev_lwc f_L_law (nx := 1243) rfl rfl rfl rfl rfl rfl rfl (x_Me.up (c_m_silent (d := 0) hI1) (by omega)) rfl ?_
  rintro _ _ ⟨g2, l2, r2, rfl, hI2, hX2, x2, rfl, -, -⟩
  have hJ2 := t_J_ext hJ1 (hX2.1 69 75 rfl).1 (fun j => (hX2.1 70 j rfl).1)
  have f2 := t_F_X hX2
  have hR2 : t_R g2 r2 := t_L_gen hR f1 f2 (by decide +kernel) (by decide +kernel)
  have h72 := t_L_g7 h7 f1 f2 (by decide +kernel)
  have hT2 : t_TP g2 := t_TP_same hT f1 f2 (by decide +kernel) rfl rfl
  have hD2 := t_DR_same hD hX1 hX2 (by decide +kernel) (fun j hj => (hX2.1 70 j (t_nG (lo := 0) (hi := 1400) rfl (Nat.zero_le _) hj)).1) hm12.2
  have hN1 : (g1 69 46).toInt = -1 := t_N46a hN f1 (by decide +kernel)
  have hN2 : (g2 69 46).toInt = -1 := t_N46 hN f1 f2 (by decide +kernel)
  refine ev_alu f_L_law (nx := 1244) rfl rfl rfl rfl ?_
  refine ev_jmp f_L_law (nx := 1621) rfl rfl rfl ?_
  exact kk _ _ _ _ ⟨⟨⟨⟨⟨hI2, hH, hJ2, by omega, by omega⟩, hR2, h72⟩, hT2⟩, hD2⟩, hN2⟩
set_option maxRecDepth 20000 in
theorem lc_31 {X : x_Ext} {c : Nat} {i : Int32} {sh : List (Nat ⊕ (Nat × Nat))} {gi : Nat → Nat → Int32} {gl : Nat → Nat → Int64} {gr : Nat → Nat → Value} {P : Option Value → x_G → Prop} (hL : X.1 ≤ 3072) (h0 : 0 ≤ i.toInt) (h1 : i.toInt + 6 ≤ (X.1 : Int)) (hW : t_LE c sh gi gl gr) (kk : ∀ sh2 gi2 gl2 gr2, t_LE (c + 1) sh2 gi2 gl2 gr2 → x_Ev X 1000 n_L_law 1621 [(3, .int i), (2, .ref 69), (1, .ref 0), (0, .retAddr 30)] [] (sh2, gi2, gl2, gr2) P) : x_Ev X 1000 n_L_law 1247 [(3, .int i), (2, .ref 69), (1, .ref 0), (0, .retAddr 30)] [] (sh, gi, gl, gr) P := by
  obtain ⟨⟨⟨⟨⟨hI, hH, hJ, hz1, hz2⟩, hR, h7⟩, hT⟩, hD⟩, hN⟩ := hW
  have hi6 : i.toInt ≤ 3066 := by omega
  have hm12 := hI.b (hI.wf.s (k := 0) rfl) (t_bdK rfl : t_bd 10 12 = some (0, 3))
  refine ev_loc f_L_law (nx := 1248) rfl rfl rfl rfl ?_
  refine ev_lwc f_L_law (nx := 1251) rfl rfl rfl rfl rfl rfl rfl (x_Me.up (c_h_least (d := 0) hI) (by omega)) rfl ?_
  rintro _ _ ⟨g1, l1, r1, rfl, hI1, hX1, x1, rfl, -, -⟩
  have hJ1 := t_J_ext hJ (hX1.1 69 75 rfl).1 (fun j => (hX1.1 70 j rfl).1)
  have f1 := t_F_X hX1
  refine ev_alu f_L_law (nx := 1252) rfl rfl rfl rfl ?_
  refine ev_loc f_L_law (nx := 1253) rfl rfl rfl rfl ?_
  have hm0 : ((0 : Nat) : Int) ≤ (g1 69 75).toInt := (hI1.b (hI1.wf.s (k := 69) rfl) (t_bdK rfl : t_bd 11 75 = some (0, 3))).1
  have hm3 := (hI1.b (hI1.wf.s (k := 69) rfl) (t_bdK rfl : t_bd 11 75 = some (0, 3))).2
  refine ev_lwc f_L_law (nx := 1256) rfl rfl rfl rfl rfl rfl rfl (x_Me.up (c_m_least (d := 0) hI1 (hJ1 0 hm0).2) (by omega)) rfl ?_
  rintro _ _ ⟨g2, l2, r2, rfl, hI2, hX2, x2, rfl, -, -⟩
  have hJ2 := t_J_ext hJ1 (hX2.1 69 75 rfl).1 (fun j => (hX2.1 70 j rfl).1)
  have f2 := t_F_X hX2
  have hR2 : t_R g2 r2 := t_L_gen hR f1 f2 (by decide +kernel) (by decide +kernel)
  have h72 := t_L_g7 h7 f1 f2 (by decide +kernel)
  have hT2 : t_TP g2 := t_TP_same hT f1 f2 (by decide +kernel) rfl rfl
  have hD2 := t_DR_same hD hX1 hX2 (by decide +kernel) (fun j hj => (hX2.1 70 j (t_nG (lo := 0) (hi := 1400) rfl (Nat.zero_le _) hj)).1) hm12.2
  have hN1 : (g1 69 46).toInt = -1 := t_N46a hN f1 (by decide +kernel)
  have hN2 : (g2 69 46).toInt = -1 := t_N46 hN f1 f2 (by decide +kernel)
  refine ev_alu f_L_law (nx := 1257) rfl rfl rfl rfl ?_
  refine ev_jmp f_L_law (nx := 1621) rfl rfl rfl ?_
  exact kk _ _ _ _ ⟨⟨⟨⟨⟨hI2, hH, hJ2, by omega, by omega⟩, hR2, h72⟩, hT2⟩, hD2⟩, hN2⟩
set_option maxRecDepth 20000 in
theorem lc_32 {X : x_Ext} {c : Nat} {i : Int32} {sh : List (Nat ⊕ (Nat × Nat))} {gi : Nat → Nat → Int32} {gl : Nat → Nat → Int64} {gr : Nat → Nat → Value} {P : Option Value → x_G → Prop} (hL : X.1 ≤ 3072) (h0 : 0 ≤ i.toInt) (h1 : i.toInt + 6 ≤ (X.1 : Int)) (hW : t_LE c sh gi gl gr) (kk : ∀ sh2 gi2 gl2 gr2, t_LE (c + 1) sh2 gi2 gl2 gr2 → x_Ev X 1000 n_L_law 1621 [(3, .int i), (2, .ref 69), (1, .ref 0), (0, .retAddr 30)] [] (sh2, gi2, gl2, gr2) P) : x_Ev X 1000 n_L_law 1260 [(3, .int i), (2, .ref 69), (1, .ref 0), (0, .retAddr 30)] [] (sh, gi, gl, gr) P := by
  obtain ⟨⟨⟨⟨⟨hI, hH, hJ, hz1, hz2⟩, hR, h7⟩, hT⟩, hD⟩, hN⟩ := hW
  have hi6 : i.toInt ≤ 3066 := by omega
  have hm12 := hI.b (hI.wf.s (k := 0) rfl) (t_bdK rfl : t_bd 10 12 = some (0, 3))
  refine ev_loc f_L_law (nx := 1261) rfl rfl rfl rfl ?_
  refine ev_lwc f_L_law (nx := 1264) rfl rfl rfl rfl rfl rfl rfl (x_Me.up (c_h_plan (d := 0) hI) (by omega)) rfl ?_
  rintro _ _ ⟨g1, l1, r1, rfl, hI1, hX1, x1, rfl, -, -⟩
  have hJ1 := t_J_ext hJ (hX1.1 69 75 rfl).1 (fun j => (hX1.1 70 j rfl).1)
  have f1 := t_F_X hX1
  refine ev_alu f_L_law (nx := 1265) rfl rfl rfl rfl ?_
  refine ev_loc f_L_law (nx := 1266) rfl rfl rfl rfl ?_
  have hm0 : ((0 : Nat) : Int) ≤ (g1 69 75).toInt := (hI1.b (hI1.wf.s (k := 69) rfl) (t_bdK rfl : t_bd 11 75 = some (0, 3))).1
  have hm3 := (hI1.b (hI1.wf.s (k := 69) rfl) (t_bdK rfl : t_bd 11 75 = some (0, 3))).2
  refine ev_lwc f_L_law (nx := 1269) rfl rfl rfl rfl rfl rfl rfl (x_Me.up (c_m_plan (d := 0) hI1 (hJ1 0 hm0).2) (by omega)) rfl ?_
  rintro _ _ ⟨g2, l2, r2, rfl, hI2, hX2, x2, rfl, -, -⟩
  have hJ2 := t_J_ext hJ1 (hX2.1 69 75 rfl).1 (fun j => (hX2.1 70 j rfl).1)
  have f2 := t_F_X hX2
  have hR2 : t_R g2 r2 := t_L_gen hR f1 f2 (by decide +kernel) (by decide +kernel)
  have h72 := t_L_g7 h7 f1 f2 (by decide +kernel)
  have hT2 : t_TP g2 := t_TP_same hT f1 f2 (by decide +kernel) rfl rfl
  have hD2 := t_DR_same hD hX1 hX2 (by decide +kernel) (fun j hj => (hX2.1 70 j (t_nG (lo := 0) (hi := 1400) rfl (Nat.zero_le _) hj)).1) hm12.2
  have hN1 : (g1 69 46).toInt = -1 := t_N46a hN f1 (by decide +kernel)
  have hN2 : (g2 69 46).toInt = -1 := t_N46 hN f1 f2 (by decide +kernel)
  refine ev_alu f_L_law (nx := 1270) rfl rfl rfl rfl ?_
  refine ev_jmp f_L_law (nx := 1621) rfl rfl rfl ?_
  exact kk _ _ _ _ ⟨⟨⟨⟨⟨hI2, hH, hJ2, by omega, by omega⟩, hR2, h72⟩, hT2⟩, hD2⟩, hN2⟩
set_option maxRecDepth 20000 in
theorem lc_33 {X : x_Ext} {c : Nat} {i : Int32} {sh : List (Nat ⊕ (Nat × Nat))} {gi : Nat → Nat → Int32} {gl : Nat → Nat → Int64} {gr : Nat → Nat → Value} {P : Option Value → x_G → Prop} (hL : X.1 ≤ 3072) (h0 : 0 ≤ i.toInt) (h1 : i.toInt + 6 ≤ (X.1 : Int)) (hW : t_LE c sh gi gl gr) (kk : ∀ sh2 gi2 gl2 gr2, t_LE (c + 1) sh2 gi2 gl2 gr2 → x_Ev X 1000 n_L_law 1621 [(3, .int i), (2, .ref 69), (1, .ref 0), (0, .retAddr 30)] [] (sh2, gi2, gl2, gr2) P) : x_Ev X 1000 n_L_law 1273 [(3, .int i), (2, .ref 69), (1, .ref 0), (0, .retAddr 30)] [] (sh, gi, gl, gr) P := by
  obtain ⟨⟨⟨⟨⟨hI, hH, hJ, hz1, hz2⟩, hR, h7⟩, hT⟩, hD⟩, hN⟩ := hW
  have hk1 : (i + 1).toInt = i.toInt + 1 := t_ik rfl h0 (by omega) (by decide)
  obtain ⟨A1, hA1⟩ : ∃ v, X.2 (i + 1).toNatClampNeg = v := ⟨_, rfl⟩
  have hk2 : (i + 2).toInt = i.toInt + 2 := t_ik rfl h0 (by omega) (by decide)
  obtain ⟨A2, hA2⟩ : ∃ v, X.2 (i + 2).toNatClampNeg = v := ⟨_, rfl⟩
  have hi6 : i.toInt ≤ 3066 := by omega
  have hm12 := hI.b (hI.wf.s (k := 0) rfl) (t_bdK rfl : t_bd 10 12 = some (0, 3))
  refine ev_loc f_L_law (nx := 1274) rfl rfl rfl rfl ?_
  refine ev_loc f_L_law (nx := 1275) rfl rfl rfl rfl ?_
  refine ev_loc f_L_law (nx := 1276) rfl rfl rfl rfl ?_
  refine ev_ic f_L_law (nx := 1277) (v := 1) rfl (by decide) rfl ?_
  refine ev_alu f_L_law (nx := 1278) rfl rfl rfl rfl ?_
  refine ev_scx f_L_law (nx := 1279) (w := A1) rfl (by rw [hk1]; omega) (by rw [hk1]; omega) hA1 rfl ?_
  refine ev_loc f_L_law (nx := 1280) rfl rfl rfl rfl ?_
  refine ev_loc f_L_law (nx := 1281) rfl rfl rfl rfl ?_
  refine ev_ic f_L_law (nx := 1282) (v := 2) rfl (by decide) rfl ?_
  refine ev_alu f_L_law (nx := 1283) rfl rfl rfl rfl ?_
  refine ev_scx f_L_law (nx := 1284) (w := A2) rfl (by rw [hk2]; omega) (by rw [hk2]; omega) hA2 rfl ?_
  refine ev_lwc f_L_law (nx := 1287) rfl rfl rfl rfl rfl rfl rfl (x_Me.up (c_h_planAt (d := 0) hI (A1) (A2)) (by omega)) rfl ?_
  rintro _ _ ⟨g1, l1, r1, rfl, hI1, hX1, x1, rfl, -, -⟩
  have hJ1 := t_J_ext hJ (hX1.1 69 75 rfl).1 (fun j => (hX1.1 70 j rfl).1)
  have f1 := t_F_X hX1
  refine ev_alu f_L_law (nx := 1288) rfl rfl rfl rfl ?_
  refine ev_loc f_L_law (nx := 1289) rfl rfl rfl rfl ?_
  refine ev_loc f_L_law (nx := 1290) rfl rfl rfl rfl ?_
  refine ev_loc f_L_law (nx := 1291) rfl rfl rfl rfl ?_
  refine ev_ic f_L_law (nx := 1292) (v := 1) rfl (by decide) rfl ?_
  refine ev_alu f_L_law (nx := 1293) rfl rfl rfl rfl ?_
  refine ev_scx f_L_law (nx := 1294) (w := A1) rfl (by rw [hk1]; omega) (by rw [hk1]; omega) hA1 rfl ?_
  refine ev_loc f_L_law (nx := 1295) rfl rfl rfl rfl ?_
  refine ev_loc f_L_law (nx := 1296) rfl rfl rfl rfl ?_
  refine ev_ic f_L_law (nx := 1297) (v := 2) rfl (by decide) rfl ?_
  refine ev_alu f_L_law (nx := 1298) rfl rfl rfl rfl ?_
  refine ev_scx f_L_law (nx := 1299) (w := A2) rfl (by rw [hk2]; omega) (by rw [hk2]; omega) hA2 rfl ?_
  have hm0 : ((0 : Nat) : Int) ≤ (g1 69 75).toInt := (hI1.b (hI1.wf.s (k := 69) rfl) (t_bdK rfl : t_bd 11 75 = some (0, 3))).1
  have hm3 := (hI1.b (hI1.wf.s (k := 69) rfl) (t_bdK rfl : t_bd 11 75 = some (0, 3))).2
  refine ev_lwc f_L_law (nx := 1302) rfl rfl rfl rfl rfl rfl rfl (x_Me.up (c_m_planAt (d := 0) hI1 (A1) (A2)) (by omega)) rfl ?_
  rintro _ _ ⟨g2, l2, r2, rfl, hI2, hX2, x2, rfl, -, -⟩
  have hJ2 := t_J_ext hJ1 (hX2.1 69 75 rfl).1 (fun j => (hX2.1 70 j rfl).1)
  have f2 := t_F_X hX2
  have hR2 : t_R g2 r2 := t_L_gen hR f1 f2 (by decide +kernel) (by decide +kernel)
  have h72 := t_L_g7 h7 f1 f2 (by decide +kernel)
  have hT2 : t_TP g2 := t_TP_same hT f1 f2 (by decide +kernel) rfl rfl
  have hD2 := t_DR_same hD hX1 hX2 (by decide +kernel) (fun j hj => (hX2.1 70 j (t_nG (lo := 0) (hi := 1400) rfl (Nat.zero_le _) hj)).1) hm12.2
  have hN1 : (g1 69 46).toInt = -1 := t_N46a hN f1 (by decide +kernel)
  have hN2 : (g2 69 46).toInt = -1 := t_N46 hN f1 f2 (by decide +kernel)
  refine ev_alu f_L_law (nx := 1303) rfl rfl rfl rfl ?_
  refine ev_jmp f_L_law (nx := 1621) rfl rfl rfl ?_
  exact kk _ _ _ _ ⟨⟨⟨⟨⟨hI2, hH, hJ2, by omega, by omega⟩, hR2, h72⟩, hT2⟩, hD2⟩, hN2⟩
