/-! ===== printed by riv.py: what RULES come to, in the class ===== -/
noncomputable def wl_h_compares : List (Nat × Nat) := []
noncomputable def Q_h_compares (gi : Nat → Nat → Int32) (gl : Nat → Nat → Int64) (gr : Nat → Nat → Value) (ar0 : Nat) (ar1 : Int32) : Int32 → (Nat → Nat → Int32) → (Nat → Nat → Int64) → (Nat → Nat → Value) → Prop := fun (v : Int32) (gi2 : Nat → Nat → Int32) (gl2 : Nat → Nat → Int64) (gr2 : Nat → Nat → Value) => (∀ (F : Nat → Int) (c : Int), (∀ j : Nat, j < 6 → (gi 59 j).toInt = F j) → (F 0 = 0 ∨ F 0 = 1) → 0 ≤ ar1.toInt → ar1.toInt < (gi ar0 3).toInt → s_cdr (gi (ar0 + 3) ar1.toNatClampNeg) (gi (ar0 + 4) ar1.toNatClampNeg) (gi (ar0 + 5) ar1.toNatClampNeg) c → c ≠ 20 → c ≠ 19 → c ≠ 18 → v.toInt = s_cs F c)
theorem c_h_compares {X : x_Ext} {d : Nat} {sh : List (Nat ⊕ (Nat × Nat))} {gi : Nat → Nat → Int32} {gl : Nat → Nat → Int64} {gr : Nat → Nat → Value} (hI : t_I sh gi gr) (ar0 : Nat) (p_a0 : t_Ru sh gr ar0) (ar1 : Int32) : x_Me X (d + 1) n_X7_compares [.ref ar0, .int ar1, .ref 59] (sh, gi, gl, gr) (t_PI wl_h_compares sh gi gl gr 0 1 (Q_h_compares gi gl gr ar0 ar1)) := by
  have hX : t_X wl_h_compares sh gi gl gr gi gl gr := t_X.rf
  refine me_i f_X7_compares p_a0.1 rfl rfl rfl ?_
  refine ev_loc f_X7_compares (nx := 1) rfl rfl rfl rfl ?_
  refine ev_if f_X7_compares (t1 := 32) (t2 := 4) rfl rfl rfl (fun h1 => ?_) (fun h1 => ?_)
  · have u2 : ar1.toInt ≤ (-1) := t_ltu h1 (by decide : (0:Int32).toInt ≤ (0:Int)) rfl
    refine ev_ic f_X7_compares (nx := 33) (v := 0) rfl (by decide) rfl ?_
    exact ev_ret f_X7_compares rfl rfl rfl ⟨_, _, _, rfl, hI, hX, ⟨_, rfl, (by decide : (0:Int) ≤ (0:Int32).toInt), (Int.le_trans (by decide : (0:Int32).toInt ≤ (0:Int)) (by decide : (0:Int) ≤ 1)), (show (∀ (F : Nat → Int) (c : Int), (∀ j : Nat, j < 6 → (gi 59 j).toInt = F j) → (F 0 = 0 ∨ F 0 = 1) → 0 ≤ ar1.toInt → ar1.toInt < (gi ar0 3).toInt → s_cdr (gi (ar0 + 3) ar1.toNatClampNeg) (gi (ar0 + 4) ar1.toNatClampNeg) (gi (ar0 + 5) ar1.toNatClampNeg) c → c ≠ 20 → c ≠ 19 → c ≠ 18 → (0 : Int) = s_cs F c) from (fun F c hF h0 i0 i1 h n1 n2 n3 => (by
                                                            obtain ⟨⟨y0, y5, x0, x2⟩, e⟩ := s_cs_v h h0 n1 n2 n3
                                                            exfalso; omega)))⟩⟩
  · have l3 : 0 ≤ ar1.toInt := t_lel (t_nlt h1) (by decide : (0:Int) ≤ (0:Int32).toInt)
    refine ev_loc f_X7_compares (nx := 5) rfl rfl rfl rfl ?_
    refine ev_loc f_X7_compares (nx := 6) rfl rfl rfl rfl ?_
    obtain ⟨hk4, d4, r1_4, r2_4, s1_4, s2_4, n4, hn4, r4_4, r5_4, r6_4, s4_4, s5_4, s6_4⟩ := id p_a0
    have q5 := hI.2.2.2.2.1 ar0 n4 p_a0 s4_4
    refine ev_getI f_X7_compares (nx := 9) rfl p_a0.1 rfl rfl rfl ?_
    obtain ⟨l6, u6⟩ := hI.b p_a0.1 (t_bdK rfl : t_bd 6 3 = some (0, 300))
    refine ev_if f_X7_compares (t1 := 32) (t2 := 12) rfl rfl rfl (fun h7 => ?_) (fun h7 => ?_)
    · have r8 : (gi ar0 3).toInt ≤ ar1.toInt := Int32.le_iff_toInt_le.mp h7
      refine ev_ic f_X7_compares (nx := 33) (v := 0) rfl (by decide) rfl ?_
      exact ev_ret f_X7_compares rfl rfl rfl ⟨_, _, _, rfl, hI, hX, ⟨_, rfl, (by decide : (0:Int) ≤ (0:Int32).toInt), (Int.le_trans (by decide : (0:Int32).toInt ≤ (0:Int)) (by decide : (0:Int) ≤ 1)), (show (∀ (F : Nat → Int) (c : Int), (∀ j : Nat, j < 6 → (gi 59 j).toInt = F j) → (F 0 = 0 ∨ F 0 = 1) → 0 ≤ ar1.toInt → ar1.toInt < (gi ar0 3).toInt → s_cdr (gi (ar0 + 3) ar1.toNatClampNeg) (gi (ar0 + 4) ar1.toNatClampNeg) (gi (ar0 + 5) ar1.toNatClampNeg) c → c ≠ 20 → c ≠ 19 → c ≠ 18 → (0 : Int) = s_cs F c) from (fun F c hF h0 i0 i1 h n1 n2 n3 => (by
                                                            obtain ⟨⟨y0, y5, x0, x2⟩, e⟩ := s_cs_v h h0 n1 n2 n3
                                                            exfalso; omega)))⟩⟩
    · have r9 : ar1.toInt < (gi ar0 3).toInt := Int32.lt_iff_toInt_lt.mp (t_nle h7)
      have u10 : ar1.toInt ≤ 299 := t_ltu (t_nle h7) u6 rfl
      have l11 : 1 ≤ (gi ar0 3).toInt := t_ltl (t_nle h7) l3 rfl
      refine ev_loc f_X7_compares (nx := 13) rfl rfl rfl rfl ?_
      refine ev_getR f_X7_compares (nx := 16) (v := .ref (ar0 + 4)) rfl p_a0.1 rfl rfl r5_4 rfl rfl ?_
      refine ev_loc f_X7_compares (nx := 17) rfl rfl rfl rfl ?_
      refine ev_ialdS f_X7_compares (nx := 18) rfl s5_4 (t_ixs l3 (t_stl (t_nle h7) q5)) rfl (fun w12 e12 => ?_)
      refine ev_if f_X7_compares (t1 := 32) (t2 := 21) rfl rfl rfl (fun h13 => ?_) (fun h13 => ?_)
      · have u14 : w12.toInt ≤ (-1) := t_ltu h13 (by decide : (0:Int32).toInt ≤ (0:Int)) rfl
        refine ev_ic f_X7_compares (nx := 33) (v := 0) rfl (by decide) rfl ?_
        exact ev_ret f_X7_compares rfl rfl rfl ⟨_, _, _, rfl, hI, hX, ⟨_, rfl, (by decide : (0:Int) ≤ (0:Int32).toInt), (Int.le_trans (by decide : (0:Int32).toInt ≤ (0:Int)) (by decide : (0:Int) ≤ 1)), (show (∀ (F : Nat → Int) (c : Int), (∀ j : Nat, j < 6 → (gi 59 j).toInt = F j) → (F 0 = 0 ∨ F 0 = 1) → 0 ≤ ar1.toInt → ar1.toInt < (gi ar0 3).toInt → s_cdr (gi (ar0 + 3) ar1.toNatClampNeg) (gi (ar0 + 4) ar1.toNatClampNeg) (gi (ar0 + 5) ar1.toNatClampNeg) c → c ≠ 20 → c ≠ 19 → c ≠ 18 → (0 : Int) = s_cs F c) from (fun F c hF h0 i0 i1 h n1 n2 n3 => (by
                                                            obtain ⟨⟨y0, y5, x0, x2⟩, e⟩ := s_cs_v h h0 n1 n2 n3
                                                            have y0_ := congrArg Int32.toInt e12
                                                            exfalso; omega)))⟩⟩
      · have l15 : 0 ≤ w12.toInt := t_lel (t_nlt h13) (by decide : (0:Int) ≤ (0:Int32).toInt)
        refine ev_loc f_X7_compares (nx := 22) rfl rfl rfl rfl ?_
        refine ev_getR f_X7_compares (nx := 25) (v := .ref (ar0 + 4)) rfl p_a0.1 rfl rfl r5_4 rfl rfl ?_
        refine ev_loc f_X7_compares (nx := 26) rfl rfl rfl rfl ?_
        refine ev_ialdS f_X7_compares (nx := 27) rfl s5_4 (t_ixs l3 (t_stl (t_nle h7) q5)) rfl (fun w16 e16 => ?_)
        rw [e16.trans e12.symm]
        refine ev_loc f_X7_compares (nx := 28) rfl rfl rfl rfl ?_
        refine ev_alenv f_X7_compares (nx := 29) (w := 6) rfl (hI.wf.s rfl) rfl (by decide) rfl ?_
        refine ev_if f_X7_compares (t1 := 34) (t2 := 32) rfl rfl rfl (fun h17 => ?_) (fun h17 => ?_)
        · have u18 : w12.toInt ≤ 5 := t_ltu h17 (by decide : (6:Int32).toInt ≤ (6:Int)) rfl
          refine ev_loc f_X7_compares (nx := 35) rfl rfl rfl rfl ?_
          refine ev_loc f_X7_compares (nx := 36) rfl rfl rfl rfl ?_
          refine ev_getR f_X7_compares (nx := 39) (v := .ref (ar0 + 4)) rfl p_a0.1 rfl rfl r5_4 rfl rfl ?_
          refine ev_loc f_X7_compares (nx := 40) rfl rfl rfl rfl ?_
          refine ev_ialdS f_X7_compares (nx := 41) rfl s5_4 (t_ixs l3 (t_stl (t_nle h7) q5)) rfl (fun w19 e19 => ?_)
          rw [e19.trans e12.symm]
          refine ev_ialdT f_X7_compares (nx := 42) rfl (hI.wf.s rfl) l15 (by decide) u18 (by decide) rfl (fun w20 e20 => ?_)
          refine ev_loc f_X7_compares (nx := 43) (lo' := [(3, .int w20), (0, .ref ar0), (1, .int ar1), (2, .ref 59)]) rfl rfl rfl rfl ?_
          refine ev_loc f_X7_compares (nx := 44) rfl rfl rfl rfl ?_
          refine ev_getR f_X7_compares (nx := 47) (v := .ref (ar0 + 3)) rfl p_a0.1 rfl rfl r4_4 rfl rfl ?_
          refine ev_loc f_X7_compares (nx := 48) rfl rfl rfl rfl ?_
          refine ev_ialdS f_X7_compares (nx := 49) rfl s4_4 (t_ixs l3 (t_stl (t_nle h7) q5)) rfl (fun w21 e21 => ?_)
          have h22 : w21.toInt = 0 ∨ w21.toInt = 1 ∨ (w21.toInt ≠ 0 ∧ w21.toInt ≠ 1) := by have := (t_lo w21); have := (t_hi w21); omega
          rcases h22 with h22 | h22 | h22
          · refine ev_swl f_X7_compares (nx := 76) (c := 0) rfl h22 rfl ?_
            refine ev_loc f_X7_compares (nx := 77) rfl rfl rfl rfl ?_
            refine ev_loc f_X7_compares (nx := 78) rfl rfl rfl rfl ?_
            refine ev_getR f_X7_compares (nx := 81) (v := .ref (ar0 + 5)) rfl p_a0.1 rfl rfl r6_4 rfl rfl ?_
            refine ev_loc f_X7_compares (nx := 82) rfl rfl rfl rfl ?_
            refine ev_ialdS f_X7_compares (nx := 83) rfl s6_4 (t_ixs l3 (t_stl (t_nle h7) q5)) rfl (fun w23 e23 => ?_)
            refine ev_if f_X7_compares (t1 := 90) (t2 := 86) rfl rfl rfl (fun h24 => ?_) (fun h24 => ?_)
            · have r25 : w23.toInt ≤ w20.toInt := Int32.le_iff_toInt_le.mp h24
              refine ev_ic f_X7_compares (nx := 91) (v := 0) rfl (by decide) rfl ?_
              exact ev_ret f_X7_compares rfl rfl rfl ⟨_, _, _, rfl, hI, hX, ⟨_, rfl, (by decide : (0:Int) ≤ (0:Int32).toInt), (Int.le_trans (by decide : (0:Int32).toInt ≤ (0:Int)) (by decide : (0:Int) ≤ 1)), (show (∀ (F : Nat → Int) (c : Int), (∀ j : Nat, j < 6 → (gi 59 j).toInt = F j) → (F 0 = 0 ∨ F 0 = 1) → 0 ≤ ar1.toInt → ar1.toInt < (gi ar0 3).toInt → s_cdr (gi (ar0 + 3) ar1.toNatClampNeg) (gi (ar0 + 4) ar1.toNatClampNeg) (gi (ar0 + 5) ar1.toNatClampNeg) c → c ≠ 20 → c ≠ 19 → c ≠ 18 → (0 : Int) = s_cs F c) from (fun F c hF h0 i0 i1 h n1 n2 n3 => (by
                                                            obtain ⟨⟨y0, y5, x0, x2⟩, e⟩ := s_cs_v h h0 n1 n2 n3
                                                            have y0_ := congrArg Int32.toInt e12
                                                            have kf := congrArg Int32.toInt e12
                                                            have ks := congrArg Int32.toInt e21
                                                            have kn := congrArg Int32.toInt e23
                                                            have kv : w20.toInt = F (gi (ar0 + 4) ar1.toNatClampNeg).toInt.toNat := by rw [e20, show w12.toNatClampNeg = (gi (ar0 + 4) ar1.toNatClampNeg).toInt.toNat from (by have hc := t_clamp (i := w12) (by omega); omega)]; exact hF _ (by omega)
                                                            rw [e, ← kv, ← ks, ← kn]
                                                            rw [if_pos (show w21.toInt = 0 by omega), if_neg (show ¬ w20.toInt < w23.toInt by omega)])))⟩⟩
            · have r26 : w20.toInt < w23.toInt := Int32.lt_iff_toInt_lt.mp (t_nle h24)
              have u27 : w20.toInt ≤ 2147483646 := t_ltu (t_nle h24) (t_hi w23) rfl
              have l28 : (-2147483647) ≤ w23.toInt := t_ltl (t_nle h24) (t_lo w20) rfl
              refine ev_ic f_X7_compares (nx := 87) (v := 1) rfl (by decide) rfl ?_
              refine ev_jmp f_X7_compares (nx := 91) rfl rfl rfl ?_
              exact ev_ret f_X7_compares rfl rfl rfl ⟨_, _, _, rfl, hI, hX, ⟨_, rfl, (Int.le_trans (by decide : (0:Int) ≤ 1) (by decide : (1:Int) ≤ (1:Int32).toInt)), (by decide : (1:Int32).toInt ≤ (1:Int)), (show (∀ (F : Nat → Int) (c : Int), (∀ j : Nat, j < 6 → (gi 59 j).toInt = F j) → (F 0 = 0 ∨ F 0 = 1) → 0 ≤ ar1.toInt → ar1.toInt < (gi ar0 3).toInt → s_cdr (gi (ar0 + 3) ar1.toNatClampNeg) (gi (ar0 + 4) ar1.toNatClampNeg) (gi (ar0 + 5) ar1.toNatClampNeg) c → c ≠ 20 → c ≠ 19 → c ≠ 18 → (1 : Int) = s_cs F c) from (fun F c hF h0 i0 i1 h n1 n2 n3 => (by
                                                            obtain ⟨⟨y0, y5, x0, x2⟩, e⟩ := s_cs_v h h0 n1 n2 n3
                                                            have y0_ := congrArg Int32.toInt e12
                                                            have kf := congrArg Int32.toInt e12
                                                            have ks := congrArg Int32.toInt e21
                                                            have kn := congrArg Int32.toInt e23
                                                            have kv : w20.toInt = F (gi (ar0 + 4) ar1.toNatClampNeg).toInt.toNat := by rw [e20, show w12.toNatClampNeg = (gi (ar0 + 4) ar1.toNatClampNeg).toInt.toNat from (by have hc := t_clamp (i := w12) (by omega); omega)]; exact hF _ (by omega)
                                                            rw [e, ← kv, ← ks, ← kn]
                                                            rw [if_pos (show w21.toInt = 0 by omega), if_pos (show w20.toInt < w23.toInt by omega)])))⟩⟩
          · refine ev_swl f_X7_compares (nx := 92) (c := 1) rfl h22 rfl ?_
            refine ev_loc f_X7_compares (nx := 93) rfl rfl rfl rfl ?_
            refine ev_loc f_X7_compares (nx := 94) rfl rfl rfl rfl ?_
            refine ev_getR f_X7_compares (nx := 97) (v := .ref (ar0 + 5)) rfl p_a0.1 rfl rfl r6_4 rfl rfl ?_
            refine ev_loc f_X7_compares (nx := 98) rfl rfl rfl rfl ?_
            refine ev_ialdS f_X7_compares (nx := 99) rfl s6_4 (t_ixs l3 (t_stl (t_nle h7) q5)) rfl (fun w29 e29 => ?_)
            refine ev_if f_X7_compares (t1 := 106) (t2 := 102) rfl rfl rfl (fun h30 => ?_) (fun h30 => ?_)
            · have r31 : w20.toInt ≤ w29.toInt := Int32.le_iff_toInt_le.mp h30
              refine ev_ic f_X7_compares (nx := 107) (v := 0) rfl (by decide) rfl ?_
              exact ev_ret f_X7_compares rfl rfl rfl ⟨_, _, _, rfl, hI, hX, ⟨_, rfl, (by decide : (0:Int) ≤ (0:Int32).toInt), (Int.le_trans (by decide : (0:Int32).toInt ≤ (0:Int)) (by decide : (0:Int) ≤ 1)), (show (∀ (F : Nat → Int) (c : Int), (∀ j : Nat, j < 6 → (gi 59 j).toInt = F j) → (F 0 = 0 ∨ F 0 = 1) → 0 ≤ ar1.toInt → ar1.toInt < (gi ar0 3).toInt → s_cdr (gi (ar0 + 3) ar1.toNatClampNeg) (gi (ar0 + 4) ar1.toNatClampNeg) (gi (ar0 + 5) ar1.toNatClampNeg) c → c ≠ 20 → c ≠ 19 → c ≠ 18 → (0 : Int) = s_cs F c) from (fun F c hF h0 i0 i1 h n1 n2 n3 => (by
                                                            obtain ⟨⟨y0, y5, x0, x2⟩, e⟩ := s_cs_v h h0 n1 n2 n3
                                                            have y0_ := congrArg Int32.toInt e12
                                                            have kf := congrArg Int32.toInt e12
                                                            have ks := congrArg Int32.toInt e21
                                                            have kn := congrArg Int32.toInt e29
                                                            have kv : w20.toInt = F (gi (ar0 + 4) ar1.toNatClampNeg).toInt.toNat := by rw [e20, show w12.toNatClampNeg = (gi (ar0 + 4) ar1.toNatClampNeg).toInt.toNat from (by have hc := t_clamp (i := w12) (by omega); omega)]; exact hF _ (by omega)
                                                            rw [e, ← kv, ← ks, ← kn]
                                                            rw [if_neg (show ¬ w21.toInt = 0 by omega), if_pos (show w21.toInt = 1 by omega), if_neg (show ¬ w29.toInt < w20.toInt by omega)])))⟩⟩
            · have r32 : w29.toInt < w20.toInt := Int32.lt_iff_toInt_lt.mp (t_nle h30)
              have u33 : w29.toInt ≤ 2147483646 := t_ltu (t_nle h30) (t_hi w20) rfl
              have l34 : (-2147483647) ≤ w20.toInt := t_ltl (t_nle h30) (t_lo w29) rfl
              refine ev_ic f_X7_compares (nx := 103) (v := 1) rfl (by decide) rfl ?_
              refine ev_jmp f_X7_compares (nx := 107) rfl rfl rfl ?_
              exact ev_ret f_X7_compares rfl rfl rfl ⟨_, _, _, rfl, hI, hX, ⟨_, rfl, (Int.le_trans (by decide : (0:Int) ≤ 1) (by decide : (1:Int) ≤ (1:Int32).toInt)), (by decide : (1:Int32).toInt ≤ (1:Int)), (show (∀ (F : Nat → Int) (c : Int), (∀ j : Nat, j < 6 → (gi 59 j).toInt = F j) → (F 0 = 0 ∨ F 0 = 1) → 0 ≤ ar1.toInt → ar1.toInt < (gi ar0 3).toInt → s_cdr (gi (ar0 + 3) ar1.toNatClampNeg) (gi (ar0 + 4) ar1.toNatClampNeg) (gi (ar0 + 5) ar1.toNatClampNeg) c → c ≠ 20 → c ≠ 19 → c ≠ 18 → (1 : Int) = s_cs F c) from (fun F c hF h0 i0 i1 h n1 n2 n3 => (by
                                                            obtain ⟨⟨y0, y5, x0, x2⟩, e⟩ := s_cs_v h h0 n1 n2 n3
                                                            have y0_ := congrArg Int32.toInt e12
                                                            have kf := congrArg Int32.toInt e12
                                                            have ks := congrArg Int32.toInt e21
                                                            have kn := congrArg Int32.toInt e29
                                                            have kv : w20.toInt = F (gi (ar0 + 4) ar1.toNatClampNeg).toInt.toNat := by rw [e20, show w12.toNatClampNeg = (gi (ar0 + 4) ar1.toNatClampNeg).toInt.toNat from (by have hc := t_clamp (i := w12) (by omega); omega)]; exact hF _ (by omega)
                                                            rw [e, ← kv, ← ks, ← kn]
                                                            rw [if_neg (show ¬ w21.toInt = 0 by omega), if_pos (show w21.toInt = 1 by omega), if_pos (show w29.toInt < w20.toInt by omega)])))⟩⟩
          · refine ev_swld f_X7_compares (nx := 108) (ks := [0, 1]) rfl rfl (by decide) (by decide) rfl (by have := (t_lo w21); have := (t_hi w21); intro k hk; simp only [List.mem_cons, List.not_mem_nil, or_false] at hk; omega) ?_
            refine ev_loc f_X7_compares (nx := 109) rfl rfl rfl rfl ?_
            refine ev_loc f_X7_compares (nx := 110) rfl rfl rfl rfl ?_
            refine ev_getR f_X7_compares (nx := 113) (v := .ref (ar0 + 5)) rfl p_a0.1 rfl rfl r6_4 rfl rfl ?_
            refine ev_loc f_X7_compares (nx := 114) rfl rfl rfl rfl ?_
            refine ev_ialdS f_X7_compares (nx := 115) rfl s6_4 (t_ixs l3 (t_stl (t_nle h7) q5)) rfl (fun w35 e35 => ?_)
            refine ev_if f_X7_compares (t1 := 118) (t2 := 122) rfl rfl rfl (fun h36 => ?_) (fun h36 => ?_)
            · have r37 : w20.toInt = w35.toInt := t_eqi h36
              refine ev_ic f_X7_compares (nx := 119) (v := 1) rfl (by decide) rfl ?_
              refine ev_jmp f_X7_compares (nx := 123) rfl rfl rfl ?_
              exact ev_ret f_X7_compares rfl rfl rfl ⟨_, _, _, rfl, hI, hX, ⟨_, rfl, (Int.le_trans (by decide : (0:Int) ≤ 1) (by decide : (1:Int) ≤ (1:Int32).toInt)), (by decide : (1:Int32).toInt ≤ (1:Int)), (show (∀ (F : Nat → Int) (c : Int), (∀ j : Nat, j < 6 → (gi 59 j).toInt = F j) → (F 0 = 0 ∨ F 0 = 1) → 0 ≤ ar1.toInt → ar1.toInt < (gi ar0 3).toInt → s_cdr (gi (ar0 + 3) ar1.toNatClampNeg) (gi (ar0 + 4) ar1.toNatClampNeg) (gi (ar0 + 5) ar1.toNatClampNeg) c → c ≠ 20 → c ≠ 19 → c ≠ 18 → (1 : Int) = s_cs F c) from (fun F c hF h0 i0 i1 h n1 n2 n3 => (by
                                                            obtain ⟨⟨y0, y5, x0, x2⟩, e⟩ := s_cs_v h h0 n1 n2 n3
                                                            have y0_ := congrArg Int32.toInt e12
                                                            have kf := congrArg Int32.toInt e12
                                                            have ks := congrArg Int32.toInt e21
                                                            have kn := congrArg Int32.toInt e35
                                                            have kv : w20.toInt = F (gi (ar0 + 4) ar1.toNatClampNeg).toInt.toNat := by rw [e20, show w12.toNatClampNeg = (gi (ar0 + 4) ar1.toNatClampNeg).toInt.toNat from (by have hc := t_clamp (i := w12) (by omega); omega)]; exact hF _ (by omega)
                                                            rw [e, ← kv, ← ks, ← kn]
                                                            rw [if_neg (show ¬ w21.toInt = 0 by omega), if_neg (show ¬ w21.toInt = 1 by omega), if_pos (show w20.toInt = w35.toInt by omega)])))⟩⟩
            · have r38 : w20.toInt ≠ w35.toInt := t_nei h36
              refine ev_ic f_X7_compares (nx := 123) (v := 0) rfl (by decide) rfl ?_
              exact ev_ret f_X7_compares rfl rfl rfl ⟨_, _, _, rfl, hI, hX, ⟨_, rfl, (by decide : (0:Int) ≤ (0:Int32).toInt), (Int.le_trans (by decide : (0:Int32).toInt ≤ (0:Int)) (by decide : (0:Int) ≤ 1)), (show (∀ (F : Nat → Int) (c : Int), (∀ j : Nat, j < 6 → (gi 59 j).toInt = F j) → (F 0 = 0 ∨ F 0 = 1) → 0 ≤ ar1.toInt → ar1.toInt < (gi ar0 3).toInt → s_cdr (gi (ar0 + 3) ar1.toNatClampNeg) (gi (ar0 + 4) ar1.toNatClampNeg) (gi (ar0 + 5) ar1.toNatClampNeg) c → c ≠ 20 → c ≠ 19 → c ≠ 18 → (0 : Int) = s_cs F c) from (fun F c hF h0 i0 i1 h n1 n2 n3 => (by
                                                            obtain ⟨⟨y0, y5, x0, x2⟩, e⟩ := s_cs_v h h0 n1 n2 n3
                                                            have y0_ := congrArg Int32.toInt e12
                                                            have kf := congrArg Int32.toInt e12
                                                            have ks := congrArg Int32.toInt e21
                                                            have kn := congrArg Int32.toInt e35
                                                            have kv : w20.toInt = F (gi (ar0 + 4) ar1.toNatClampNeg).toInt.toNat := by rw [e20, show w12.toNatClampNeg = (gi (ar0 + 4) ar1.toNatClampNeg).toInt.toNat from (by have hc := t_clamp (i := w12) (by omega); omega)]; exact hF _ (by omega)
                                                            rw [e, ← kv, ← ks, ← kn]
                                                            rw [if_neg (show ¬ w21.toInt = 0 by omega), if_neg (show ¬ w21.toInt = 1 by omega), if_neg (show ¬ w20.toInt = w35.toInt by omega)])))⟩⟩
        · have l39 : 6 ≤ w12.toInt := t_lel (t_nlt h17) (by decide : (6:Int) ≤ (6:Int32).toInt)
          refine ev_ic f_X7_compares (nx := 33) (v := 0) rfl (by decide) rfl ?_
          exact ev_ret f_X7_compares rfl rfl rfl ⟨_, _, _, rfl, hI, hX, ⟨_, rfl, (by decide : (0:Int) ≤ (0:Int32).toInt), (Int.le_trans (by decide : (0:Int32).toInt ≤ (0:Int)) (by decide : (0:Int) ≤ 1)), (show (∀ (F : Nat → Int) (c : Int), (∀ j : Nat, j < 6 → (gi 59 j).toInt = F j) → (F 0 = 0 ∨ F 0 = 1) → 0 ≤ ar1.toInt → ar1.toInt < (gi ar0 3).toInt → s_cdr (gi (ar0 + 3) ar1.toNatClampNeg) (gi (ar0 + 4) ar1.toNatClampNeg) (gi (ar0 + 5) ar1.toNatClampNeg) c → c ≠ 20 → c ≠ 19 → c ≠ 18 → (0 : Int) = s_cs F c) from (fun F c hF h0 i0 i1 h n1 n2 n3 => (by
                                                            obtain ⟨⟨y0, y5, x0, x2⟩, e⟩ := s_cs_v h h0 n1 n2 n3
                                                            have y0_ := congrArg Int32.toInt e12
                                                            have yz_ := congrArg Int32.toInt e12
                                                            exfalso; omega)))⟩⟩
noncomputable def wl_h_holds : List (Nat × Nat) := []
noncomputable def Q_h_holds (gi : Nat → Nat → Int32) (gl : Nat → Nat → Int64) (gr : Nat → Nat → Value) (ar0 : Nat) (ar1 : Int32) (ar2 : Int32) : Int32 → (Nat → Nat → Int32) → (Nat → Nat → Int64) → (Nat → Nat → Value) → Prop := fun (v : Int32) (gi2 : Nat → Nat → Int32) (gl2 : Nat → Nat → Int64) (gr2 : Nat → Nat → Value) => (∀ (F : Nat → Int) (R : List (List Int × Int)) (r : Nat), (∀ j : Nat, j < 6 → (gi 59 j).toInt = F j) → (F 0 = 0 ∨ F 0 = 1) → t_UK gi ar0 R → s_gd R → r < R.length → ar1.toInt = ((s_re R r : Nat) : Int) → ar2.toInt = ((s_re R (r + 1) : Nat) : Int) → (v.toInt = 1 ↔ s_tpx (s_ex F (R.getD r ([], 0)).1 []) = 1))
theorem c_h_holds {X : x_Ext} {d : Nat} {sh : List (Nat ⊕ (Nat × Nat))} {gi : Nat → Nat → Int32} {gl : Nat → Nat → Int64} {gr : Nat → Nat → Value} (hI : t_I sh gi gr) (ar0 : Nat) (p_a0 : t_Ru sh gr ar0) (ar1 : Int32) (l_a1 : 0 ≤ ar1.toInt) (ar2 : Int32) : x_Me X (d + 2) n_X7_holds [.ref ar0, .int ar1, .int ar2, .ref 59] (sh, gi, gl, gr) (t_PI wl_h_holds sh gi gl gr 0 1 (Q_h_holds gi gl gr ar0 ar1 ar2)) := by
  have hX : t_X wl_h_holds sh gi gl gr gi gl gr := t_X.rf
  refine me_i f_X7_holds p_a0.1 rfl rfl rfl ?_
  refine ev_lc f_X7_holds (nx := 1) (v := 0) rfl (by decide) rfl ?_
  refine ev_loc f_X7_holds (nx := 3) (lo' := [(4, .long 0), (0, .ref ar0), (1, .int ar1), (2, .int ar2), (3, .ref 59)]) rfl rfl rfl rfl ?_
  refine ev_loc f_X7_holds (nx := 4) rfl rfl rfl rfl ?_
  refine ev_loc f_X7_holds (nx := 6) (lo' := [(6, .int ar1), (4, .long 0), (0, .ref ar0), (1, .int ar1), (2, .int ar2), (3, .ref 59)]) rfl rfl rfl rfl ?_
  have L1 : ∀ (m1 : Nat) (gi1 : Nat → Nat → Int32) (gl1 : Nat → Nat → Int64) (gr1 : Nat → Nat → Value) (y1_6 : Int32) (y1_4 : Int64), t_I sh gi1 gr1 → t_X wl_h_holds sh gi gl gr gi1 gl1 gr1 → t_Ru sh gr1 ar0 → 0 ≤ y1_6.toInt → (∀ (F : Nat → Int) (R : List (List Int × Int)) (r : Nat), (∀ j : Nat, j < 6 → (gi 59 j).toInt = F j) → (F 0 = 0 ∨ F 0 = 1) → t_UK gi ar0 R → s_gd R → r < R.length → ar1.toInt = ((s_re R r : Nat) : Int) → ar2.toInt = ((s_re R (r + 1) : Nat) : Int) → ∃ st, s_HI F (R.getD r ([], 0)).1 (y1_6.toInt.toNat - s_re R r) st ∧ y1_4.toInt = s_bv st ∧ ar1.toInt ≤ y1_6.toInt ∧ y1_6.toInt ≤ ar2.toInt) → (2147483647 - y1_6.toInt).toNat = m1 → x_Ev X (d + 2) n_X7_holds 6 [(6, .int y1_6), (4, .long y1_4), (0, .ref ar0), (1, .int ar1), (2, .int ar2), (3, .ref 59)] [] (sh, gi1, gl1, gr1) (t_PI wl_h_holds sh gi gl gr 0 1 (Q_h_holds gi gl gr ar0 ar1 ar2)) := by
    intro m1
    induction m1 using Nat.strongRecOn with
    | _ m1 ih1 =>
    intro gi1 gl1 gr1 y1_6 y1_4 hI hX p_a0 l1_6 j1_0 hm1
    refine ev_loc f_X7_holds (nx := 8) rfl rfl rfl rfl ?_
    refine ev_loc f_X7_holds (nx := 9) rfl rfl rfl rfl ?_
    refine ev_if f_X7_holds (t1 := 124) (t2 := 12) rfl rfl rfl (fun h2 => ?_) (fun h2 => ?_)
    · have r3 : ar2.toInt ≤ y1_6.toInt := Int32.le_iff_toInt_le.mp h2
      refine ev_loc f_X7_holds (nx := 126) rfl rfl rfl rfl ?_
      refine ev_lc f_X7_holds (nx := 127) (v := 1) rfl (by decide) rfl ?_
      refine ev_anyLE f_X7_holds (nx := 128) rfl rfl rfl rfl (fun z4 e4 => ?_)
      refine ev_lc f_X7_holds (nx := 129) (v := 1) rfl (by decide) rfl ?_
      refine ev_anyIE f_X7_holds (nx := 130) rfl rfl rfl rfl (fun z5 e5 => ?_)
      refine ev_if f_X7_holds (t1 := 133) (t2 := 137) rfl rfl rfl (fun h6 => ?_) (fun h6 => ?_)
      · have u7 : z5.toInt ≤ 0 := t_equ h6 (by decide : (0:Int32).toInt ≤ (0:Int))
        have l8 : 0 ≤ z5.toInt := t_eql h6 (by decide : (0:Int) ≤ (0:Int32).toInt)
        refine ev_ic f_X7_holds (nx := 134) (v := 1) rfl (by decide) rfl ?_
        refine ev_jmp f_X7_holds (nx := 138) rfl rfl rfl ?_
        exact ev_ret f_X7_holds rfl rfl rfl ⟨_, _, _, rfl, hI, hX, ⟨_, rfl, (Int.le_trans (by decide : (0:Int) ≤ 1) (by decide : (1:Int) ≤ (1:Int32).toInt)), (by decide : (1:Int32).toInt ≤ (1:Int)), (show (∀ (F : Nat → Int) (R : List (List Int × Int)) (r : Nat), (∀ j : Nat, j < 6 → (gi 59 j).toInt = F j) → (F 0 = 0 ∨ F 0 = 1) → t_UK gi ar0 R → s_gd R → r < R.length → ar1.toInt = ((s_re R r : Nat) : Int) → ar2.toInt = ((s_re R (r + 1) : Nat) : Int) → ((1 : Int) = 1 ↔ s_tpx (s_ex F (R.getD r ([], 0)).1 []) = 1)) from (fun F R r hF h0 hU hg hr ha he => (by
                                                            obtain ⟨st, H, hb, hlo, hhi⟩ := j1_0 F R r hF h0 hU hg hr ha he
                                                            have eg : gi1 = gi := funext fun c => funext fun j => (hX.1 c j rfl).1
                                                            rw [← eg] at hU hF
                                                            have hs := s_re_s R r hr
                                                            have hst := hU.1.2
                                                            have hj : y1_6.toInt.toNat - s_re R r = (R.getD r ([], 0)).1.length := by omega
                                                            rw [hj] at H
                                                            obtain ⟨w, eS, hw, ht⟩ := s_HI_e H
                                                            subst eS
                                                            have hz := t_anb1 e4 (B := 0) (hb.trans (by show w + 2 * 0 = _; omega)) hw (by decide)
                                                            have hc := t_lcm1 e5
                                                            rw [hz] at hc
                                                            rw [ht]
                                                            exact ⟨fun _ => hc.mp (by assumption), fun _ => rfl⟩)))⟩⟩
      · have r9 : z5.toInt ≠ 0 := fun e => h6 (Int32.toInt_inj.mp (e.trans (by decide : (0:Int) = (0 : Int32).toInt)))
        refine ev_ic f_X7_holds (nx := 138) (v := 0) rfl (by decide) rfl ?_
        exact ev_ret f_X7_holds rfl rfl rfl ⟨_, _, _, rfl, hI, hX, ⟨_, rfl, (by decide : (0:Int) ≤ (0:Int32).toInt), (Int.le_trans (by decide : (0:Int32).toInt ≤ (0:Int)) (by decide : (0:Int) ≤ 1)), (show (∀ (F : Nat → Int) (R : List (List Int × Int)) (r : Nat), (∀ j : Nat, j < 6 → (gi 59 j).toInt = F j) → (F 0 = 0 ∨ F 0 = 1) → t_UK gi ar0 R → s_gd R → r < R.length → ar1.toInt = ((s_re R r : Nat) : Int) → ar2.toInt = ((s_re R (r + 1) : Nat) : Int) → ((0 : Int) = 1 ↔ s_tpx (s_ex F (R.getD r ([], 0)).1 []) = 1)) from (fun F R r hF h0 hU hg hr ha he => (by
                                                            obtain ⟨st, H, hb, hlo, hhi⟩ := j1_0 F R r hF h0 hU hg hr ha he
                                                            have eg : gi1 = gi := funext fun c => funext fun j => (hX.1 c j rfl).1
                                                            rw [← eg] at hU hF
                                                            have hs := s_re_s R r hr
                                                            have hst := hU.1.2
                                                            have hj : y1_6.toInt.toNat - s_re R r = (R.getD r ([], 0)).1.length := by omega
                                                            rw [hj] at H
                                                            obtain ⟨w, eS, hw, ht⟩ := s_HI_e H
                                                            subst eS
                                                            have hz := t_anb1 e4 (B := 0) (hb.trans (by show w + 2 * 0 = _; omega)) hw (by decide)
                                                            have hc := t_lcm1 e5
                                                            rw [hz] at hc
                                                            rw [ht]
                                                            exact ⟨fun hh => absurd hh (by decide), fun hh => absurd (hc.mpr hh) (by assumption)⟩)))⟩⟩
    · have r10 : y1_6.toInt < ar2.toInt := Int32.lt_iff_toInt_lt.mp (t_nle h2)
      have u11 : y1_6.toInt ≤ 2147483646 := t_ltu (t_nle h2) (t_hi ar2) rfl
      have l12 : 1 ≤ ar2.toInt := t_ltl (t_nle h2) l1_6 rfl
      refine ev_loc f_X7_holds (nx := 14) rfl rfl rfl rfl ?_
      refine ev_loc f_X7_holds (nx := 15) rfl rfl rfl rfl ?_
      obtain ⟨hk13, d13, r1_13, r2_13, s1_13, s2_13, n13, hn13, r4_13, r5_13, r6_13, s4_13, s5_13, s6_13⟩ := id p_a0
      have q14 := hI.2.2.2.2.1 ar0 n13 p_a0 s4_13
      refine ev_getI f_X7_holds (nx := 18) rfl p_a0.1 rfl rfl rfl ?_
      obtain ⟨l15, u15⟩ := hI.b p_a0.1 (t_bdK rfl : t_bd 6 3 = some (0, 300))
      refine ev_if f_X7_holds (t1 := 124) (t2 := 21) rfl rfl rfl (fun h16 => ?_) (fun h16 => ?_)
      · have r17 : (gi1 ar0 3).toInt ≤ y1_6.toInt := Int32.le_iff_toInt_le.mp h16
        refine ev_loc f_X7_holds (nx := 126) rfl rfl rfl rfl ?_
        refine ev_lc f_X7_holds (nx := 127) (v := 1) rfl (by decide) rfl ?_
        refine ev_anyLE f_X7_holds (nx := 128) rfl rfl rfl rfl (fun z18 e18 => ?_)
        refine ev_lc f_X7_holds (nx := 129) (v := 1) rfl (by decide) rfl ?_
        refine ev_anyIE f_X7_holds (nx := 130) rfl rfl rfl rfl (fun z19 e19 => ?_)
        refine ev_if f_X7_holds (t1 := 133) (t2 := 137) rfl rfl rfl (fun h20 => ?_) (fun h20 => ?_)
        · have u21 : z19.toInt ≤ 0 := t_equ h20 (by decide : (0:Int32).toInt ≤ (0:Int))
          have l22 : 0 ≤ z19.toInt := t_eql h20 (by decide : (0:Int) ≤ (0:Int32).toInt)
          refine ev_ic f_X7_holds (nx := 134) (v := 1) rfl (by decide) rfl ?_
          refine ev_jmp f_X7_holds (nx := 138) rfl rfl rfl ?_
          exact ev_ret f_X7_holds rfl rfl rfl ⟨_, _, _, rfl, hI, hX, ⟨_, rfl, (Int.le_trans (by decide : (0:Int) ≤ 1) (by decide : (1:Int) ≤ (1:Int32).toInt)), (by decide : (1:Int32).toInt ≤ (1:Int)), (show (∀ (F : Nat → Int) (R : List (List Int × Int)) (r : Nat), (∀ j : Nat, j < 6 → (gi 59 j).toInt = F j) → (F 0 = 0 ∨ F 0 = 1) → t_UK gi ar0 R → s_gd R → r < R.length → ar1.toInt = ((s_re R r : Nat) : Int) → ar2.toInt = ((s_re R (r + 1) : Nat) : Int) → ((1 : Int) = 1 ↔ s_tpx (s_ex F (R.getD r ([], 0)).1 []) = 1)) from (fun F R r hF h0 hU hg hr ha he => (by
                                                            obtain ⟨st, H, hb, hlo, hhi⟩ := j1_0 F R r hF h0 hU hg hr ha he
                                                            have eg : gi1 = gi := funext fun c => funext fun j => (hX.1 c j rfl).1
                                                            rw [← eg] at hU hF
                                                            have hs := s_re_s R r hr
                                                            have hst := hU.1.2
                                                            have hj : y1_6.toInt.toNat - s_re R r = (R.getD r ([], 0)).1.length := by omega
                                                            rw [hj] at H
                                                            obtain ⟨w, eS, hw, ht⟩ := s_HI_e H
                                                            subst eS
                                                            have hz := t_anb1 e18 (B := 0) (hb.trans (by show w + 2 * 0 = _; omega)) hw (by decide)
                                                            have hc := t_lcm1 e19
                                                            rw [hz] at hc
                                                            rw [ht]
                                                            exact ⟨fun _ => hc.mp (by assumption), fun _ => rfl⟩)))⟩⟩
        · have r23 : z19.toInt ≠ 0 := fun e => h20 (Int32.toInt_inj.mp (e.trans (by decide : (0:Int) = (0 : Int32).toInt)))
          refine ev_ic f_X7_holds (nx := 138) (v := 0) rfl (by decide) rfl ?_
          exact ev_ret f_X7_holds rfl rfl rfl ⟨_, _, _, rfl, hI, hX, ⟨_, rfl, (by decide : (0:Int) ≤ (0:Int32).toInt), (Int.le_trans (by decide : (0:Int32).toInt ≤ (0:Int)) (by decide : (0:Int) ≤ 1)), (show (∀ (F : Nat → Int) (R : List (List Int × Int)) (r : Nat), (∀ j : Nat, j < 6 → (gi 59 j).toInt = F j) → (F 0 = 0 ∨ F 0 = 1) → t_UK gi ar0 R → s_gd R → r < R.length → ar1.toInt = ((s_re R r : Nat) : Int) → ar2.toInt = ((s_re R (r + 1) : Nat) : Int) → ((0 : Int) = 1 ↔ s_tpx (s_ex F (R.getD r ([], 0)).1 []) = 1)) from (fun F R r hF h0 hU hg hr ha he => (by
                                                            obtain ⟨st, H, hb, hlo, hhi⟩ := j1_0 F R r hF h0 hU hg hr ha he
                                                            have eg : gi1 = gi := funext fun c => funext fun j => (hX.1 c j rfl).1
                                                            rw [← eg] at hU hF
                                                            have hs := s_re_s R r hr
                                                            have hst := hU.1.2
                                                            have hj : y1_6.toInt.toNat - s_re R r = (R.getD r ([], 0)).1.length := by omega
                                                            rw [hj] at H
                                                            obtain ⟨w, eS, hw, ht⟩ := s_HI_e H
                                                            subst eS
                                                            have hz := t_anb1 e18 (B := 0) (hb.trans (by show w + 2 * 0 = _; omega)) hw (by decide)
                                                            have hc := t_lcm1 e19
                                                            rw [hz] at hc
                                                            rw [ht]
                                                            exact ⟨fun hh => absurd hh (by decide), fun hh => absurd (hc.mpr hh) (by assumption)⟩)))⟩⟩
      · have r24 : y1_6.toInt < (gi1 ar0 3).toInt := Int32.lt_iff_toInt_lt.mp (t_nle h16)
        have u25 : y1_6.toInt ≤ 299 := t_ltu (t_nle h16) u15 rfl
        have l26 : 1 ≤ (gi1 ar0 3).toInt := t_ltl (t_nle h16) l1_6 rfl
        refine ev_loc f_X7_holds (nx := 23) rfl rfl rfl rfl ?_
        refine ev_ic f_X7_holds (nx := 24) (v := 1) rfl (by decide) rfl ?_
        refine ev_anyLE f_X7_holds (nx := 25) rfl rfl rfl rfl (fun z27 e27 => ?_)
        refine ev_loc f_X7_holds (nx := 27) (lo' := [(7, .long z27), (6, .int y1_6), (4, .long y1_4), (0, .ref ar0), (1, .int ar1), (2, .int ar2), (3, .ref 59)]) rfl rfl rfl rfl ?_
        refine ev_loc f_X7_holds (nx := 28) rfl rfl rfl rfl ?_
        refine ev_getR f_X7_holds (nx := 31) (v := .ref (ar0 + 3)) rfl p_a0.1 rfl rfl r4_13 rfl rfl ?_
        refine ev_loc f_X7_holds (nx := 33) rfl rfl rfl rfl ?_
        refine ev_ialdS f_X7_holds (nx := 34) rfl s4_13 (t_ixs l1_6 (t_stl (t_nle h16) q14)) rfl (fun w28 e28 => ?_)
        have h29 : w28.toInt = 3 ∨ w28.toInt = 4 ∨ w28.toInt = 5 ∨ (w28.toInt ≠ 3 ∧ w28.toInt ≠ 4 ∧ w28.toInt ≠ 5) := by have := (t_lo w28); have := (t_hi w28); omega
        rcases h29 with h29 | h29 | h29 | h29
        · refine ev_swt f_X7_holds (nx := 60) (c := 3) rfl h29 rfl ?_
          refine ev_loc f_X7_holds (nx := 62) rfl rfl rfl rfl ?_
          refine ev_lc f_X7_holds (nx := 63) (v := 1) rfl (by decide) rfl ?_
          refine ev_anyLE f_X7_holds (nx := 64) rfl rfl rfl rfl (fun z30 e30 => ?_)
          refine ev_loc f_X7_holds (nx := 66) (lo' := [(4, .long z30), (7, .long z27), (6, .int y1_6), (0, .ref ar0), (1, .int ar1), (2, .int ar2), (3, .ref 59)]) rfl rfl rfl rfl ?_
          refine ev_jmp f_X7_holds (nx := 118) rfl rfl rfl ?_
          refine ev_incR f_X7_holds (nx := 121) (c := 1) (l := 1) (u := 300) rfl rfl (by decide) (by decide) l1_6 u25 rfl rfl (by decide) (by decide) rfl (fun z31 e31 l31 u31 => ?_)
          refine ev_jmp f_X7_holds (nx := 6) rfl rfl rfl ?_
          refine ev_sub (lo := [(6, .int z31), (4, .long z30), (0, .ref ar0), (1, .int ar1), (2, .int ar2), (3, .ref 59)]) rfl (t_sc rfl (t_sc rfl (t_sc rfl (t_sc rfl (t_sc rfl (t_sc rfl t_sn)))))) ?_
          exact ih1 _ (by omega) gi1 gl1 gr1 (z31) (z30) hI hX p_a0 (Int.le_trans (by decide : (0:Int) ≤ 1) l31) (fun F R r hF h0 hU hg hr ha he => (by
                                                            obtain ⟨st, H, hb, hlo, hhi⟩ := j1_0 F R r hF h0 hU hg hr ha he
                                                            have eg : gi1 = gi := funext fun c => funext fun j => (hX.1 c j rfl).1
                                                            rw [← eg] at hU hF
                                                            have hs := s_re_s R r hr
                                                            have hj : y1_6.toInt.toNat - s_re R r < (R.getD r ([], 0)).1.length := by omega
                                                            have hat := s_fl_at R r _ hr hj
                                                            rw [show s_re R r + (y1_6.toInt.toNat - s_re R r) = y1_6.toNatClampNeg from (by have hc := t_clamp (i := y1_6) (by omega); omega)] at hat
                                                            have hcd := hU.2.1 y1_6.toNatClampNeg hat.2
                                                            rw [hat.1] at hcd
                                                            have hk := s_cdr_20 hcd
                                                            have kw := congrArg Int32.toInt e28
                                                            have hj1 : z31.toInt.toNat - s_re R r = y1_6.toInt.toNat - s_re R r + 1 := by omega
                                                            have hbb := s_bv_b st 30 H.2.1 H.2.2.1
                                                            rw [show ((2 ^ 30 : Nat) : Int) = 1073741824 from rfl] at hbb
                                                            obtain ⟨a, u, eS, ha1, H2⟩ := s_HI_n H hj (hk.1.mp (by omega))
                                                            subst eS
                                                            have hbv : s_bv (a :: u) = a + 2 * s_bv u := rfl
                                                            have hz := t_xor1 e30 hb ha1 ⟨by omega, by omega⟩
                                                            rw [← hj1] at H2; exact ⟨_, H2, hz, by omega, by omega⟩)) rfl
        · refine ev_swt f_X7_holds (nx := 69) (c := 4) rfl h29 rfl ?_
          refine ev_loc f_X7_holds (nx := 71) rfl rfl rfl rfl ?_
          refine ev_loc f_X7_holds (nx := 73) rfl rfl rfl rfl ?_
          refine ev_ldL f_X7_holds (nx := 76) (v := -2) rfl (by decide) rfl ?_
          refine ev_anyLE f_X7_holds (nx := 77) rfl rfl rfl rfl (fun z32 e32 => ?_)
          refine ev_anyLE f_X7_holds (nx := 78) rfl rfl rfl rfl (fun z33 e33 => ?_)
          refine ev_loc f_X7_holds (nx := 80) (lo' := [(4, .long z33), (7, .long z27), (6, .int y1_6), (0, .ref ar0), (1, .int ar1), (2, .int ar2), (3, .ref 59)]) rfl rfl rfl rfl ?_
          refine ev_jmp f_X7_holds (nx := 118) rfl rfl rfl ?_
          refine ev_incR f_X7_holds (nx := 121) (c := 1) (l := 1) (u := 300) rfl rfl (by decide) (by decide) l1_6 u25 rfl rfl (by decide) (by decide) rfl (fun z34 e34 l34 u34 => ?_)
          refine ev_jmp f_X7_holds (nx := 6) rfl rfl rfl ?_
          refine ev_sub (lo := [(6, .int z34), (4, .long z33), (0, .ref ar0), (1, .int ar1), (2, .int ar2), (3, .ref 59)]) rfl (t_sc rfl (t_sc rfl (t_sc rfl (t_sc rfl (t_sc rfl (t_sc rfl t_sn)))))) ?_
          exact ih1 _ (by omega) gi1 gl1 gr1 (z34) (z33) hI hX p_a0 (Int.le_trans (by decide : (0:Int) ≤ 1) l34) (fun F R r hF h0 hU hg hr ha he => (by
                                                            obtain ⟨st, H, hb, hlo, hhi⟩ := j1_0 F R r hF h0 hU hg hr ha he
                                                            have eg : gi1 = gi := funext fun c => funext fun j => (hX.1 c j rfl).1
                                                            rw [← eg] at hU hF
                                                            have hs := s_re_s R r hr
                                                            have hj : y1_6.toInt.toNat - s_re R r < (R.getD r ([], 0)).1.length := by omega
                                                            have hat := s_fl_at R r _ hr hj
                                                            rw [show s_re R r + (y1_6.toInt.toNat - s_re R r) = y1_6.toNatClampNeg from (by have hc := t_clamp (i := y1_6) (by omega); omega)] at hat
                                                            have hcd := hU.2.1 y1_6.toNatClampNeg hat.2
                                                            rw [hat.1] at hcd
                                                            have hk := s_cdr_20 hcd
                                                            have kw := congrArg Int32.toInt e28
                                                            have hj1 : z34.toInt.toNat - s_re R r = y1_6.toInt.toNat - s_re R r + 1 := by omega
                                                            have hbb := s_bv_b st 30 H.2.1 H.2.2.1
                                                            rw [show ((2 ^ 30 : Nat) : Int) = 1073741824 from rfl] at hbb
                                                            obtain ⟨a, b, u, eS, ha1, hb1, H2⟩ := s_HI_a H hj (hk.2.1.mp (by omega))
                                                            subst eS
                                                            have hbv : s_bv (a :: b :: u) = a + 2 * (b + 2 * s_bv u) := rfl
                                                            have hz := t_andP e27 e32 e33 hb ha1 hb1 ⟨by omega, by omega⟩
                                                            rw [← hj1] at H2; exact ⟨_, H2, hz, by omega, by omega⟩)) rfl
        · refine ev_swt f_X7_holds (nx := 83) (c := 5) rfl h29 rfl ?_
          refine ev_loc f_X7_holds (nx := 85) rfl rfl rfl rfl ?_
          refine ev_loc f_X7_holds (nx := 87) rfl rfl rfl rfl ?_
          refine ev_lc f_X7_holds (nx := 88) (v := 1) rfl (by decide) rfl ?_
          refine ev_anyLE f_X7_holds (nx := 89) rfl rfl rfl rfl (fun z35 e35 => ?_)
          refine ev_anyLE f_X7_holds (nx := 90) rfl rfl rfl rfl (fun z36 e36 => ?_)
          refine ev_loc f_X7_holds (nx := 92) (lo' := [(4, .long z36), (7, .long z27), (6, .int y1_6), (0, .ref ar0), (1, .int ar1), (2, .int ar2), (3, .ref 59)]) rfl rfl rfl rfl ?_
          refine ev_jmp f_X7_holds (nx := 118) rfl rfl rfl ?_
          refine ev_incR f_X7_holds (nx := 121) (c := 1) (l := 1) (u := 300) rfl rfl (by decide) (by decide) l1_6 u25 rfl rfl (by decide) (by decide) rfl (fun z37 e37 l37 u37 => ?_)
          refine ev_jmp f_X7_holds (nx := 6) rfl rfl rfl ?_
          refine ev_sub (lo := [(6, .int z37), (4, .long z36), (0, .ref ar0), (1, .int ar1), (2, .int ar2), (3, .ref 59)]) rfl (t_sc rfl (t_sc rfl (t_sc rfl (t_sc rfl (t_sc rfl (t_sc rfl t_sn)))))) ?_
          exact ih1 _ (by omega) gi1 gl1 gr1 (z37) (z36) hI hX p_a0 (Int.le_trans (by decide : (0:Int) ≤ 1) l37) (fun F R r hF h0 hU hg hr ha he => (by
                                                            obtain ⟨st, H, hb, hlo, hhi⟩ := j1_0 F R r hF h0 hU hg hr ha he
                                                            have eg : gi1 = gi := funext fun c => funext fun j => (hX.1 c j rfl).1
                                                            rw [← eg] at hU hF
                                                            have hs := s_re_s R r hr
                                                            have hj : y1_6.toInt.toNat - s_re R r < (R.getD r ([], 0)).1.length := by omega
                                                            have hat := s_fl_at R r _ hr hj
                                                            rw [show s_re R r + (y1_6.toInt.toNat - s_re R r) = y1_6.toNatClampNeg from (by have hc := t_clamp (i := y1_6) (by omega); omega)] at hat
                                                            have hcd := hU.2.1 y1_6.toNatClampNeg hat.2
                                                            rw [hat.1] at hcd
                                                            have hk := s_cdr_20 hcd
                                                            have kw := congrArg Int32.toInt e28
                                                            have hj1 : z37.toInt.toNat - s_re R r = y1_6.toInt.toNat - s_re R r + 1 := by omega
                                                            have hbb := s_bv_b st 30 H.2.1 H.2.2.1
                                                            rw [show ((2 ^ 30 : Nat) : Int) = 1073741824 from rfl] at hbb
                                                            obtain ⟨a, b, u, eS, ha1, hb1, H2⟩ := s_HI_o H hj (hk.2.2.mp (by omega))
                                                            subst eS
                                                            have hbv : s_bv (a :: b :: u) = a + 2 * (b + 2 * s_bv u) := rfl
                                                            have hz := t_orP e27 e35 e36 hb ha1 hb1 ⟨by omega, by omega⟩
                                                            rw [← hj1] at H2; exact ⟨_, H2, hz, by omega, by omega⟩)) rfl
        · refine ev_swtd f_X7_holds (nx := 95) rfl (by omega) (by decide) rfl ?_
          refine ev_loc f_X7_holds (nx := 97) rfl rfl rfl rfl ?_
          refine ev_ic f_X7_holds (nx := 98) (v := 1) rfl (by decide) rfl ?_
          refine ev_anyLE f_X7_holds (nx := 99) rfl rfl rfl rfl (fun z38 e38 => ?_)
          refine ev_loc f_X7_holds (nx := 100) rfl rfl rfl rfl ?_
          refine ev_loc f_X7_holds (nx := 102) rfl rfl rfl rfl ?_
          refine ev_loc f_X7_holds (nx := 103) rfl rfl rfl rfl ?_
          refine ev_qI0 f_X7_holds (nx := 106) (r := [.long z38]) rfl rfl rfl rfl rfl rfl rfl (c_h_compares hI (ar0) p_a0 (y1_6)) rfl (fun w39 l39 u39 q39 => ?_)
          have q39 : (∀ (F : Nat → Int) (c : Int), (∀ j : Nat, j < 6 → (gi1 59 j).toInt = F j) → (F 0 = 0 ∨ F 0 = 1) → 0 ≤ y1_6.toInt → y1_6.toInt < (gi1 ar0 3).toInt → s_cdr (gi1 (ar0 + 3) y1_6.toNatClampNeg) (gi1 (ar0 + 4) y1_6.toNatClampNeg) (gi1 (ar0 + 5) y1_6.toNatClampNeg) c → c ≠ 20 → c ≠ 19 → c ≠ 18 → w39.toInt = s_cs F c) := q39
          refine ev_if f_X7_holds (t1 := 113) (t2 := 109) rfl rfl rfl (fun h40 => ?_) (fun h40 => ?_)
          · have u41 : w39.toInt ≤ 0 := t_equ h40 (by decide : (0:Int32).toInt ≤ (0:Int))
            refine ev_ic f_X7_holds (nx := 114) (v := 0) rfl (by decide) rfl ?_
            refine ev_aluvL f_X7_holds (nx := 115) (w := 0) rfl rfl rfl (by decide) rfl ?_
            refine ev_anyLE f_X7_holds (nx := 116) rfl rfl rfl rfl (fun z42 e42 => ?_)
            refine ev_loc f_X7_holds (nx := 118) (lo' := [(4, .long z42), (7, .long z27), (6, .int y1_6), (0, .ref ar0), (1, .int ar1), (2, .int ar2), (3, .ref 59)]) rfl rfl rfl rfl ?_
            refine ev_incR f_X7_holds (nx := 121) (c := 1) (l := 1) (u := 300) rfl rfl (by decide) (by decide) l1_6 u25 rfl rfl (by decide) (by decide) rfl (fun z43 e43 l43 u43 => ?_)
            refine ev_jmp f_X7_holds (nx := 6) rfl rfl rfl ?_
            refine ev_sub (lo := [(6, .int z43), (4, .long z42), (0, .ref ar0), (1, .int ar1), (2, .int ar2), (3, .ref 59)]) rfl (t_sc rfl (t_sc rfl (t_sc rfl (t_sc rfl (t_sc rfl (t_sc rfl t_sn)))))) ?_
            exact ih1 _ (by omega) gi1 gl1 gr1 (z43) (z42) hI hX p_a0 (Int.le_trans (by decide : (0:Int) ≤ 1) l43) (fun F R r hF h0 hU hg hr ha he => (by
                                                            obtain ⟨st, H, hb, hlo, hhi⟩ := j1_0 F R r hF h0 hU hg hr ha he
                                                            have eg : gi1 = gi := funext fun c => funext fun j => (hX.1 c j rfl).1
                                                            rw [← eg] at hU hF
                                                            have hs := s_re_s R r hr
                                                            have hj : y1_6.toInt.toNat - s_re R r < (R.getD r ([], 0)).1.length := by omega
                                                            have hat := s_fl_at R r _ hr hj
                                                            rw [show s_re R r + (y1_6.toInt.toNat - s_re R r) = y1_6.toNatClampNeg from (by have hc := t_clamp (i := y1_6) (by omega); omega)] at hat
                                                            have hcd := hU.2.1 y1_6.toNatClampNeg hat.2
                                                            rw [hat.1] at hcd
                                                            have hk := s_cdr_20 hcd
                                                            have kw := congrArg Int32.toInt e28
                                                            have hj1 : z43.toInt.toNat - s_re R r = y1_6.toInt.toNat - s_re R r + 1 := by omega
                                                            have hbb := s_bv_b st 30 H.2.1 H.2.2.1
                                                            rw [show ((2 ^ 30 : Nat) : Int) = 1073741824 from rfl] at hbb
                                                            have n1 : (R.getD r ([], 0)).1.getD (y1_6.toInt.toNat - s_re R r) 0 ≠ 20 := fun hh => by have := hk.1.mpr hh; omega
                                                            have n2 : (R.getD r ([], 0)).1.getD (y1_6.toInt.toNat - s_re R r) 0 ≠ 19 := fun hh => by have := hk.2.1.mpr hh; omega
                                                            have n3 : (R.getD r ([], 0)).1.getD (y1_6.toInt.toNat - s_re R r) 0 ≠ 18 := fun hh => by have := hk.2.2.mpr hh; omega
                                                            have hv := q39 F _ hF h0 (by omega) (by omega) hcd n1 n2 n3
                                                            obtain ⟨hl, H2⟩ := s_HI_c H hj n1 n2 n3
                                                            have hsl := t_shl1 e38 ⟨by omega, by omega⟩
                                                            have hz := t_orb (t := s_bv st) (a := s_cs F ((R.getD r ([], 0)).1.getD (y1_6.toInt.toNat - s_re R r) 0)) e42 (by omega) ⟨by omega, by omega⟩ (by rw [← hv]; have hq : (0 : Int64).toInt = 0 := rfl; omega) s_cs_01
                                                            rw [← hj1] at H2; exact ⟨_, H2, hz, by omega, by omega⟩)) rfl
          · have r44 : w39.toInt ≠ 0 := fun e => h40 (Int32.toInt_inj.mp (e.trans (by decide : (0:Int) = (0 : Int32).toInt)))
            have l45 : 1 ≤ w39.toInt := t_nel h40 l39 rfl rfl
            refine ev_ic f_X7_holds (nx := 110) (v := 1) rfl (by decide) rfl ?_
            refine ev_jmp f_X7_holds (nx := 114) rfl rfl rfl ?_
            refine ev_aluvL f_X7_holds (nx := 115) (w := 1) rfl rfl rfl (by decide) rfl ?_
            refine ev_anyLE f_X7_holds (nx := 116) rfl rfl rfl rfl (fun z46 e46 => ?_)
            refine ev_loc f_X7_holds (nx := 118) (lo' := [(4, .long z46), (7, .long z27), (6, .int y1_6), (0, .ref ar0), (1, .int ar1), (2, .int ar2), (3, .ref 59)]) rfl rfl rfl rfl ?_
            refine ev_incR f_X7_holds (nx := 121) (c := 1) (l := 1) (u := 300) rfl rfl (by decide) (by decide) l1_6 u25 rfl rfl (by decide) (by decide) rfl (fun z47 e47 l47 u47 => ?_)
            refine ev_jmp f_X7_holds (nx := 6) rfl rfl rfl ?_
            refine ev_sub (lo := [(6, .int z47), (4, .long z46), (0, .ref ar0), (1, .int ar1), (2, .int ar2), (3, .ref 59)]) rfl (t_sc rfl (t_sc rfl (t_sc rfl (t_sc rfl (t_sc rfl (t_sc rfl t_sn)))))) ?_
            exact ih1 _ (by omega) gi1 gl1 gr1 (z47) (z46) hI hX p_a0 (Int.le_trans (by decide : (0:Int) ≤ 1) l47) (fun F R r hF h0 hU hg hr ha he => (by
                                                            obtain ⟨st, H, hb, hlo, hhi⟩ := j1_0 F R r hF h0 hU hg hr ha he
                                                            have eg : gi1 = gi := funext fun c => funext fun j => (hX.1 c j rfl).1
                                                            rw [← eg] at hU hF
                                                            have hs := s_re_s R r hr
                                                            have hj : y1_6.toInt.toNat - s_re R r < (R.getD r ([], 0)).1.length := by omega
                                                            have hat := s_fl_at R r _ hr hj
                                                            rw [show s_re R r + (y1_6.toInt.toNat - s_re R r) = y1_6.toNatClampNeg from (by have hc := t_clamp (i := y1_6) (by omega); omega)] at hat
                                                            have hcd := hU.2.1 y1_6.toNatClampNeg hat.2
                                                            rw [hat.1] at hcd
                                                            have hk := s_cdr_20 hcd
                                                            have kw := congrArg Int32.toInt e28
                                                            have hj1 : z47.toInt.toNat - s_re R r = y1_6.toInt.toNat - s_re R r + 1 := by omega
                                                            have hbb := s_bv_b st 30 H.2.1 H.2.2.1
                                                            rw [show ((2 ^ 30 : Nat) : Int) = 1073741824 from rfl] at hbb
                                                            have n1 : (R.getD r ([], 0)).1.getD (y1_6.toInt.toNat - s_re R r) 0 ≠ 20 := fun hh => by have := hk.1.mpr hh; omega
                                                            have n2 : (R.getD r ([], 0)).1.getD (y1_6.toInt.toNat - s_re R r) 0 ≠ 19 := fun hh => by have := hk.2.1.mpr hh; omega
                                                            have n3 : (R.getD r ([], 0)).1.getD (y1_6.toInt.toNat - s_re R r) 0 ≠ 18 := fun hh => by have := hk.2.2.mpr hh; omega
                                                            have hv := q39 F _ hF h0 (by omega) (by omega) hcd n1 n2 n3
                                                            obtain ⟨hl, H2⟩ := s_HI_c H hj n1 n2 n3
                                                            have hsl := t_shl1 e38 ⟨by omega, by omega⟩
                                                            have hz := t_orb (t := s_bv st) (a := s_cs F ((R.getD r ([], 0)).1.getD (y1_6.toInt.toNat - s_re R r) 0)) e46 (by omega) ⟨by omega, by omega⟩ (by rw [← hv]; have hq : (1 : Int64).toInt = 1 := rfl; omega) s_cs_01
                                                            rw [← hj1] at H2; exact ⟨_, H2, hz, by omega, by omega⟩)) rfl
  refine ev_sub (lo := [(6, .int ar1), (4, .long 0), (0, .ref ar0), (1, .int ar1), (2, .int ar2), (3, .ref 59)]) rfl (t_sc rfl (t_sc rfl (t_sc rfl (t_sc rfl (t_sc rfl (t_sc rfl t_sn)))))) ?_
  exact L1 _ gi gl gr (ar1) (0) hI hX p_a0 l_a1 (fun F R r hF h0 hU hg hr ha he => (by
                                                            have hs := s_re_s R r hr
                                                            exact ⟨[], by rw [show ar1.toInt.toNat - s_re R r = 0 by omega]; exact s_HI_0 (hg r hr), by decide, by omega, by omega⟩)) rfl
noncomputable def wl_h_actBy : List (Nat × Nat) := []
noncomputable def Q_h_actBy (gi : Nat → Nat → Int32) (gl : Nat → Nat → Int64) (gr : Nat → Nat → Value) (ar0 : Nat) : Int32 → (Nat → Nat → Int32) → (Nat → Nat → Int64) → (Nat → Nat → Value) → Prop := fun (v : Int32) (gi2 : Nat → Nat → Int32) (gl2 : Nat → Nat → Int64) (gr2 : Nat → Nat → Value) => (∀ (F : Nat → Int) (R : List (List Int × Int)), (∀ j : Nat, j < 6 → (gi 59 j).toInt = F j) → (F 0 = 0 ∨ F 0 = 1) → t_UK gi ar0 R → s_gd R → v.toInt = s_ac F R)
theorem c_h_actBy {X : x_Ext} {d : Nat} {sh : List (Nat ⊕ (Nat × Nat))} {gi : Nat → Nat → Int32} {gl : Nat → Nat → Int64} {gr : Nat → Nat → Value} (hI : t_I sh gi gr) (ar0 : Nat) (p_a0 : t_Ru sh gr ar0) : x_Me X (d + 3) n_X7_actBy [.ref ar0, .ref 59] (sh, gi, gl, gr) (t_PI wl_h_actBy sh gi gl gr (-2147483648) 2147483647 (Q_h_actBy gi gl gr ar0)) := by
  have hX : t_X wl_h_actBy sh gi gl gr gi gl gr := t_X.rf
  refine me_i f_X7_actBy p_a0.1 rfl rfl rfl ?_
  refine ev_ic f_X7_actBy (nx := 1) (v := 0) rfl (by decide) rfl ?_
  refine ev_loc f_X7_actBy (nx := 2) (lo' := [(2, .int 0), (0, .ref ar0), (1, .ref 59)]) rfl rfl rfl rfl ?_
  refine ev_ic f_X7_actBy (nx := 3) (v := 0) rfl (by decide) rfl ?_
  refine ev_loc f_X7_actBy (nx := 4) (lo' := [(3, .int 0), (2, .int 0), (0, .ref ar0), (1, .ref 59)]) rfl rfl rfl rfl ?_
  have L1 : ∀ (m1 : Nat) (gi1 : Nat → Nat → Int32) (gl1 : Nat → Nat → Int64) (gr1 : Nat → Nat → Value) (y1_3 : Int32) (y1_2 : Int32), t_I sh gi1 gr1 → t_X wl_h_actBy sh gi gl gr gi1 gl1 gr1 → t_Ru sh gr1 ar0 → 0 ≤ y1_3.toInt → y1_3.toInt ≤ 12 → 0 ≤ y1_2.toInt → (∀ (F : Nat → Int) (R : List (List Int × Int)), (∀ j : Nat, j < 6 → (gi 59 j).toInt = F j) → (F 0 = 0 ∨ F 0 = 1) → t_UK gi ar0 R → s_gd R → s_ac F R = s_ac F (R.drop y1_3.toNatClampNeg) ∧ y1_2.toInt = ((s_re R y1_3.toNatClampNeg : Nat) : Int) ∧ y1_3.toInt ≤ (R.length : Int)) → (12 - y1_3.toInt).toNat = m1 → x_Ev X (d + 3) n_X7_actBy 4 [(3, .int y1_3), (2, .int y1_2), (0, .ref ar0), (1, .ref 59)] [] (sh, gi1, gl1, gr1) (t_PI wl_h_actBy sh gi gl gr (-2147483648) 2147483647 (Q_h_actBy gi gl gr ar0)) := by
    intro m1
    induction m1 using Nat.strongRecOn with
    | _ m1 ih1 =>
    intro gi1 gl1 gr1 y1_3 y1_2 hI hX p_a0 l1_3 u1_3 l1_2 j1_0 hm1
    refine ev_loc f_X7_actBy (nx := 5) rfl rfl rfl rfl ?_
    refine ev_loc f_X7_actBy (nx := 6) rfl rfl rfl rfl ?_
    refine ev_getI f_X7_actBy (nx := 9) rfl p_a0.1 rfl rfl rfl ?_
    obtain ⟨l2, u2⟩ := hI.b p_a0.1 (t_bdK rfl : t_bd 6 0 = some (0, 12))
    refine ev_if f_X7_actBy (t1 := 47) (t2 := 12) rfl rfl rfl (fun h3 => ?_) (fun h3 => ?_)
    · have r4 : (gi1 ar0 0).toInt ≤ y1_3.toInt := Int32.le_iff_toInt_le.mp h3
      refine ev_ic f_X7_actBy (nx := 48) (v := 2) rfl (by decide) rfl ?_
      exact ev_ret f_X7_actBy rfl rfl rfl ⟨_, _, _, rfl, hI, hX, ⟨_, rfl, (Int.le_trans (by decide : ((-2147483648):Int) ≤ 2) (by decide : (2:Int) ≤ (2:Int32).toInt)), (Int.le_trans (by decide : (2:Int32).toInt ≤ (2:Int)) (by decide : (2:Int) ≤ 2147483647)), (show (∀ (F : Nat → Int) (R : List (List Int × Int)), (∀ j : Nat, j < 6 → (gi 59 j).toInt = F j) → (F 0 = 0 ∨ F 0 = 1) → t_UK gi ar0 R → s_gd R → (2 : Int) = s_ac F R) from (fun F R hF h0 hU hg => (by
                                                            obtain ⟨e1, e2, e3⟩ := j1_0 F R hF h0 hU hg
                                                            have eg : gi1 = gi := funext fun c => funext fun j => (hX.1 c j rfl).1
                                                            rw [← eg] at hU hF
                                                            have hm := hU.1.1
                                                            have hc := t_clamp (i := y1_3) (by omega)
                                                            rw [e1, s_ac_e (by omega)])))⟩⟩
    · have r5 : y1_3.toInt < (gi1 ar0 0).toInt := Int32.lt_iff_toInt_lt.mp (t_nle h3)
      have u6 : y1_3.toInt ≤ 11 := t_ltu (t_nle h3) u2 rfl
      have l7 : 1 ≤ (gi1 ar0 0).toInt := t_ltl (t_nle h3) l1_3 rfl
      refine ev_loc f_X7_actBy (nx := 13) rfl rfl rfl rfl ?_
      refine ev_loc f_X7_actBy (nx := 14) rfl rfl rfl rfl ?_
      refine ev_loc f_X7_actBy (nx := 15) rfl rfl rfl rfl ?_
      obtain ⟨hk9, d9, r1_9, r2_9, s1_9, s2_9, n9, hn9, r4_9, r5_9, r6_9, s4_9, s5_9, s6_9⟩ := id p_a0
      refine ev_getR f_X7_actBy (nx := 18) (v := .ref (ar0 + 2)) rfl p_a0.1 rfl rfl r2_9 rfl rfl ?_
      refine ev_loc f_X7_actBy (nx := 19) rfl rfl rfl rfl ?_
      refine ev_ialdT f_X7_actBy (nx := 20) rfl s2_9 l1_3 (by decide) u6 (by decide) rfl (fun w10 e10 => ?_)
      have l10 := hI.2.2.2.2.2 ar0 y1_3.toNatClampNeg p_a0
      rw [← e10] at l10
      refine ev_loc f_X7_actBy (nx := 21) rfl rfl rfl rfl ?_
      refine ev_qI0 f_X7_actBy (nx := 24) (r := []) rfl rfl rfl rfl rfl rfl rfl (c_h_holds hI (ar0) p_a0 (y1_2) l1_2 (w10)) rfl (fun w11 l11 u11 q11 => ?_)
      have q11 : (∀ (F : Nat → Int) (R : List (List Int × Int)) (r : Nat), (∀ j : Nat, j < 6 → (gi1 59 j).toInt = F j) → (F 0 = 0 ∨ F 0 = 1) → t_UK gi1 ar0 R → s_gd R → r < R.length → y1_2.toInt = ((s_re R r : Nat) : Int) → w10.toInt = ((s_re R (r + 1) : Nat) : Int) → (w11.toInt = 1 ↔ s_tpx (s_ex F (R.getD r ([], 0)).1 []) = 1)) := q11
      refine ev_if f_X7_actBy (t1 := 34) (t2 := 27) rfl rfl rfl (fun h12 => ?_) (fun h12 => ?_)
      · have u13 : w11.toInt ≤ 0 := t_equ h12 (by decide : (0:Int32).toInt ≤ (0:Int))
        refine ev_loc f_X7_actBy (nx := 35) rfl rfl rfl rfl ?_
        refine ev_getR f_X7_actBy (nx := 38) (v := .ref (ar0 + 2)) rfl p_a0.1 rfl rfl r2_9 rfl rfl ?_
        refine ev_loc f_X7_actBy (nx := 39) rfl rfl rfl rfl ?_
        refine ev_ialdT f_X7_actBy (nx := 40) rfl s2_9 l1_3 (by decide) u6 (by decide) rfl (fun w14 e14 => ?_)
        have l14 := hI.2.2.2.2.2 ar0 y1_3.toNatClampNeg p_a0
        rw [← e14] at l14
        refine ev_loc f_X7_actBy (nx := 41) (lo' := [(2, .int w14), (3, .int y1_3), (0, .ref ar0), (1, .ref 59)]) rfl rfl rfl rfl ?_
        refine ev_incR f_X7_actBy (nx := 44) (c := 1) (l := 1) (u := 12) rfl rfl (by decide) (by decide) l1_3 u6 rfl rfl (by decide) (by decide) rfl (fun z15 e15 l15 u15 => ?_)
        refine ev_jmp f_X7_actBy (nx := 4) rfl rfl rfl ?_
        refine ev_sub (lo := [(3, .int z15), (2, .int w14), (0, .ref ar0), (1, .ref 59)]) rfl (t_sc rfl (t_sc rfl (t_sc rfl (t_sc rfl t_sn)))) ?_
        exact ih1 _ (by omega) gi1 gl1 gr1 (z15) (w14) hI hX p_a0 (Int.le_trans (by decide : (0:Int) ≤ 1) l15) u15 l14 (fun F R hF h0 hU hg => (by
                                                            obtain ⟨e1, e2, e3⟩ := j1_0 F R hF h0 hU hg
                                                            have eg : gi1 = gi := funext fun c => funext fun j => (hX.1 c j rfl).1
                                                            rw [← eg] at hU hF
                                                            have hm := hU.1.1
                                                            have hc := t_clamp (i := y1_3) (by omega)
                                                            have hr : y1_3.toNatClampNeg < R.length := by omega
                                                            have hE := (hU.2.2 _ hr).2
                                                            have ke := congrArg Int32.toInt e14
                                                            have hq := q11 F R _ hF h0 hU hg hr e2 (by have k2 := congrArg Int32.toInt e10; omega)
                                                            have hx : z15.toNatClampNeg = y1_3.toNatClampNeg + 1 := by have hd := t_clamp (i := z15) (by omega); omega
                                                            exact ⟨by rw [e1, hx]; exact s_ac_n hr (fun hh => by have := hq.mpr hh; omega), by rw [hx]; omega, by omega⟩)) rfl
      · have r16 : w11.toInt ≠ 0 := fun e => h12 (Int32.toInt_inj.mp (e.trans (by decide : (0:Int) = (0 : Int32).toInt)))
        have l17 : 1 ≤ w11.toInt := t_nel h12 l11 rfl rfl
        refine ev_loc f_X7_actBy (nx := 28) rfl rfl rfl rfl ?_
        refine ev_getR f_X7_actBy (nx := 31) (v := .ref (ar0 + 1)) rfl p_a0.1 rfl rfl r1_9 rfl rfl ?_
        refine ev_loc f_X7_actBy (nx := 32) rfl rfl rfl rfl ?_
        refine ev_ialdT f_X7_actBy (nx := 33) rfl s1_9 l1_3 (by decide) u6 (by decide) rfl (fun w18 e18 => ?_)
        exact ev_ret f_X7_actBy rfl rfl rfl ⟨_, _, _, rfl, hI, hX, ⟨_, rfl, (t_lo w18), (t_hi w18), (show (∀ (F : Nat → Int) (R : List (List Int × Int)), (∀ j : Nat, j < 6 → (gi 59 j).toInt = F j) → (F 0 = 0 ∨ F 0 = 1) → t_UK gi ar0 R → s_gd R → w18.toInt = s_ac F R) from (fun F R hF h0 hU hg => (by
                                                            obtain ⟨e1, e2, e3⟩ := j1_0 F R hF h0 hU hg
                                                            have eg : gi1 = gi := funext fun c => funext fun j => (hX.1 c j rfl).1
                                                            rw [← eg] at hU hF
                                                            have hm := hU.1.1
                                                            have hc := t_clamp (i := y1_3) (by omega)
                                                            have hr : y1_3.toNatClampNeg < R.length := by omega
                                                            have hE := (hU.2.2 _ hr).2
                                                            skip
                                                            have hq := q11 F R _ hF h0 hU hg hr e2 (by have ke := congrArg Int32.toInt e10; omega)
                                                            rw [e1, s_ac_y hr (hq.mp (by omega)), ← (hU.2.2 _ hr).1]
                                                            exact congrArg Int32.toInt e18)))⟩⟩
  refine ev_sub (lo := [(3, .int 0), (2, .int 0), (0, .ref ar0), (1, .ref 59)]) rfl (t_sc rfl (t_sc rfl (t_sc rfl (t_sc rfl t_sn)))) ?_
  exact L1 _ gi gl gr (0) (0) hI hX p_a0 (by decide : (0:Int) ≤ (0:Int32).toInt) (Int.le_trans (by decide : (0:Int32).toInt ≤ (0:Int)) (by decide : (0:Int) ≤ 12)) (by decide : (0:Int) ≤ (0:Int32).toInt) (fun F R hF h0 hU hg => ⟨rfl, rfl, by have z0 : (0 : Int32).toInt = 0 := rfl; omega⟩) rfl
