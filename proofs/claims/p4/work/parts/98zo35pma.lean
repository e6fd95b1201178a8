/-! ===== printed by riv.py: what the RULES bid ===== -/
noncomputable def wl_k_obey : List (Nat × Nat) := [(45, 7), (45, 8), (45, 12), (45, 13), (58, 9999), (59, 9999)]
noncomputable def Q_k_obey (gi : Nat → Nat → Int32) (gl : Nat → Nat → Int64) (gr : Nat → Nat → Value) (ar1 : Nat) (ar2 : Nat) : (Nat → Nat → Int32) → (Nat → Nat → Int64) → (Nat → Nat → Value) → Prop := fun (gi2 : Nat → Nat → Int32) (gl2 : Nat → Nat → Int64) (gr2 : Nat → Nat → Value) => (∀ (P : Nat → Nat → Int) (Z : Nat → Int) (R : List (List Int × Int)), t_KL P gi → t_CZ (P 0 0) Z gi → s_okz P Z → Z 1 = 0 → t_UK gi ar2 R → s_gd R → ((ar1 = 3 ∨ 102 ≤ ar1) ∧ 102 ≤ ar2) → ((∀ m : Nat, P 8 m = (gi ar1 3).toInt + (if (m : Int) < (gi ar1 5).toInt then 0 else (gi ar1 4).toInt)) ∧ (0 ≤ (gi ar1 3).toInt ∧ (gi ar1 3).toInt ≤ 20) ∧ 0 ≤ (gi ar1 4).toInt ∧ (gi ar1 4).toInt ≤ 20) → t_CZ (P 0 0) (s_ob P (fun F => s_ac F R) (gi 45 5).toInt Z) gi2)
theorem c_k_obey {X : x_Ext} {d : Nat} {sh : List (Nat ⊕ (Nat × Nat))} {gi : Nat → Nat → Int32} {gl : Nat → Nat → Int64} {gr : Nat → Nat → Value} (hI : t_I sh gi gr) (ar1 : Nat) (p_a1 : t_Rv sh gr ar1) (ar2 : Nat) (p_a2 : t_Ru sh gr ar2) : x_Me X (d + 4) n_X2_obey [.ref 45, .ref ar1, .ref ar2] (sh, gi, gl, gr) (t_PN wl_k_obey sh gi gl gr (Q_k_obey gi gl gr ar1 ar2)) := by
  have hX : t_X wl_k_obey sh gi gl gr gi gl gr := t_X.rf
  refine me_i f_X2_obey (hI.wf.s rfl) rfl rfl rfl ?_
  obtain ⟨l1, u1⟩ := hI.b (hI.wf.s (k := 45) rfl) (t_bdK rfl : t_bd 2 5 = some (0, 301))
  have hI0 := hI
  refine ev_loc f_X2_obey (nx := 1) rfl rfl rfl rfl ?_
  refine ev_qN f_X2_obey (nx := 4) (r := []) rfl rfl rfl rfl rfl rfl rfl (c_k_gatherFacts hI ) rfl hX rfl (fun gi2 gl2 gr2 hI hX hC2 q2 => ?_)
  have q2 : (∀ (P : Nat → Nat → Int) (Z : Nat → Int), t_KL P gi → t_CZ (P 0 0) Z gi → s_okz P Z → ∀ j : Nat, j < 6 → (gi2 59 j).toInt = s_FA P (gi 45 5).toInt Z j) := q2
  replace p_a1 := p_a1.ext hC2.2
  replace p_a2 := p_a2.ext hC2.2
  refine ev_loc f_X2_obey (nx := 5) rfl rfl rfl rfl ?_
  refine ev_loc f_X2_obey (nx := 6) rfl rfl rfl rfl ?_
  refine ev_getR f_X2_obey (nx := 9) rfl (hI.wf.s rfl) rfl rfl (hI.wf.r rfl) rfl rfl ?_
  refine ev_qI0 f_X2_obey (nx := 12) (r := []) rfl rfl rfl rfl rfl rfl rfl (c_h_actBy hI (ar2) p_a2) rfl (fun w3 l3 u3 q3 => ?_)
  have q3 : (∀ (F : Nat → Int) (R : List (List Int × Int)), (∀ j : Nat, j < 6 → (gi2 59 j).toInt = F j) → (F 0 = 0 ∨ F 0 = 1) → t_UK gi2 ar2 R → s_gd R → w3.toInt = s_ac F R) := q3
  refine ev_loc f_X2_obey (nx := 13) (lo' := [(3, .int w3), (0, .ref 45), (1, .ref ar1), (2, .ref ar2)]) rfl rfl rfl rfl ?_
  refine ev_loc f_X2_obey (nx := 14) rfl rfl rfl rfl ?_
  refine ev_getI f_X2_obey (nx := 17) rfl (hI.wf.s rfl) rfl rfl rfl ?_
  refine ev_if f_X2_obey (t1 := 33) (t2 := 20) rfl rfl rfl (fun h4 => ?_) (fun h4 => ?_)
  · have u5 : (gi2 45 6).toInt ≤ 0 := t_equ h4 (by decide : (0:Int32).toInt ≤ (0:Int))
    have l6 : 0 ≤ (gi2 45 6).toInt := t_eql h4 (by decide : (0:Int) ≤ (0:Int32).toInt)
    refine ev_loc f_X2_obey (nx := 34) rfl rfl rfl rfl ?_
    refine ev_if f_X2_obey (t1 := 37) (t2 := 41) rfl rfl rfl (fun h7 => ?_) (fun h7 => ?_)
    · have u8 : w3.toInt ≤ 0 := t_equ h7 (by decide : (0:Int32).toInt ≤ (0:Int))
      have l9 : 0 ≤ w3.toInt := t_eql h7 (by decide : (0:Int) ≤ (0:Int32).toInt)
      refine ev_ic f_X2_obey (nx := 38) (v := 1) rfl (by decide) rfl ?_
      refine ev_jmp f_X2_obey (nx := 42) rfl rfl rfl ?_
      refine ev_loc f_X2_obey (nx := 44) (lo' := [(4, .int 1), (3, .int w3), (0, .ref 45), (1, .ref ar1), (2, .ref ar2)]) rfl rfl rfl rfl ?_
      refine ev_loc f_X2_obey (nx := 46) rfl rfl rfl rfl ?_
      refine ev_f f_X2_obey (t1 := 49) (t2 := 50) rfl rfl rfl (by decide) ?_
      refine ev_loc f_X2_obey (nx := 51) rfl rfl rfl rfl ?_
      refine ev_ic f_X2_obey (nx := 52) (v := 3) rfl (by decide) rfl ?_
      refine ev_putIT f_X2_obey (nx := 55) rfl (hI.wf.s rfl) rfl rfl rfl (hI.put0 (hI.wf.s rfl) rfl rfl) (hX.upI rfl) (fun g10 e10 hI hX => ?_)
      refine ev_loc f_X2_obey (nx := 56) rfl rfl rfl rfl ?_
      refine ev_loc f_X2_obey (nx := 57) rfl rfl rfl rfl ?_
      refine ev_gvI f_X2_obey (nx := 60) (w := (gi 45 5)) rfl (hI.wf.s rfl) rfl rfl ((by rw [e10]; exact x_up2_off (Or.inr (by decide)) : g10 45 5 = gi2 45 5).trans ((hC2.1 45 5 rfl).1.trans rfl)) rfl ?_
      refine ev_loc f_X2_obey (nx := 61) rfl rfl rfl rfl ?_
      refine ev_loc f_X2_obey (nx := 62) rfl rfl rfl rfl ?_
      refine ev_getI f_X2_obey (nx := 65) rfl p_a1.1 rfl rfl rfl ?_
      refine ev_loc f_X2_obey (nx := 66) rfl rfl rfl rfl ?_
      refine ev_gvI f_X2_obey (nx := 69) (w := (gi 45 5)) rfl (hI.wf.s rfl) rfl rfl ((by rw [e10]; exact x_up2_off (Or.inr (by decide)) : g10 45 5 = gi2 45 5).trans ((hC2.1 45 5 rfl).1.trans rfl)) rfl ?_
      refine ev_inV3 f_X2_obey (nx := 72) (lo2 := [(0, .ref ar1), (1, .int (g10 ar1 3)), (2, .int (gi 45 5))]) rfl rfl rfl rfl f_X5_turnLength p_a1.1 rfl rfl rfl rfl rfl ?_
      refine ev_loc f_X5_turnLength (nx := 1) rfl rfl rfl rfl ?_
      refine ev_loc f_X5_turnLength (nx := 2) rfl rfl rfl rfl ?_
      refine ev_getI f_X5_turnLength (nx := 5) rfl p_a1.1 rfl rfl rfl ?_
      refine ev_if f_X5_turnLength (t1 := 17) (t2 := 8) rfl rfl rfl (fun h11 => ?_) (fun h11 => ?_)
      · have r12 : (gi 45 5).toInt < (g10 ar1 5).toInt := Int32.lt_iff_toInt_lt.mp h11
        have l13 : 1 ≤ (g10 ar1 5).toInt := t_ltl h11 l1 rfl
        refine ev_loc f_X5_turnLength (nx := 18) rfl rfl rfl rfl ?_
        refine ev_retK1 f_X5_turnLength rfl rfl rfl ?_
        refine ev_anyIE f_X2_obey (nx := 73) rfl rfl rfl rfl (fun z14 e14 => ?_)
        refine ev_putIT f_X2_obey (nx := 76) rfl (hI.wf.s rfl) rfl rfl rfl (hI.put0 (hI.wf.s rfl) rfl rfl) (hX.upI rfl) (fun g15 e15 hI hX => ?_)
        refine ev_loc f_X2_obey (nx := 77) rfl rfl rfl rfl ?_
        refine ev_alu f_X2_obey (nx := 78) rfl rfl rfl rfl ?_
        refine ev_getI f_X2_obey (nx := 81) rfl (hI.wf.s rfl) rfl rfl rfl ?_
        refine ev_ic f_X2_obey (nx := 82) (v := 1) rfl (by decide) rfl ?_
        refine ev_anyIE f_X2_obey (nx := 83) rfl rfl rfl rfl (fun z16 e16 => ?_)
        refine ev_putIT f_X2_obey (nx := 86) rfl (hI.wf.s rfl) rfl rfl rfl (hI.put0 (hI.wf.s rfl) rfl rfl) (hX.upI rfl) (fun g17 e17 hI hX => ?_)
        refine ev_ic f_X2_obey (nx := 87) (v := 0) rfl (by decide) rfl ?_
        refine ev_loc f_X2_obey (nx := 89) (lo' := [(5, .int 0), (4, .int 1), (3, .int w3), (0, .ref 45), (1, .ref ar1), (2, .ref ar2)]) rfl rfl rfl rfl ?_
        have L18 : ∀ (m18 : Nat) (gi18 : Nat → Nat → Int32) (gl18 : Nat → Nat → Int64) (gr18 : Nat → Nat → Value) (y18_5 : Int32), t_I sh gi18 gr18 → t_X wl_k_obey sh gi gl gr gi18 gl18 gr18 → t_Rv sh gr18 ar1 → t_Ru sh gr18 ar2 → 0 ≤ y18_5.toInt → y18_5.toInt ≤ 6 → gi18 45 5 = (gi 45 5) → gi18 45 6 = (gi2 45 6) → gi18 45 7 = 3 → (∀ (P : Nat → Nat → Int) (Z : Nat → Int) (R : List (List Int × Int)), t_KL P gi → t_CZ (P 0 0) Z gi → s_okz P Z → Z 1 = 0 → t_UK gi ar2 R → s_gd R → ((ar1 = 3 ∨ 102 ≤ ar1) ∧ 102 ≤ ar2) → ((∀ m : Nat, P 8 m = (gi ar1 3).toInt + (if (m : Int) < (gi ar1 5).toInt then 0 else (gi ar1 4).toInt)) ∧ (0 ≤ (gi ar1 3).toInt ∧ (gi ar1 3).toInt ≤ 20) ∧ 0 ≤ (gi ar1 4).toInt ∧ (gi ar1 4).toInt ≤ 20) → ∃ Y, t_CZ (P 0 0) Y gi18 ∧ s_skz P (gi 45 5).toInt ((P 0 0).toNat - y18_5.toNatClampNeg) y18_5.toNatClampNeg Y = s_ob P (fun F => s_ac F R) (gi 45 5).toInt Z ∧ Y 1 = 3 ∧ y18_5.toInt ≤ P 0 0) → (6 - y18_5.toInt).toNat = m18 → x_Ev X (d + 4) n_X2_obey 89 [(5, .int y18_5), (4, .int 1), (3, .int w3), (0, .ref 45), (1, .ref ar1), (2, .ref ar2)] [] (sh, gi18, gl18, gr18) (t_PN wl_k_obey sh gi gl gr (Q_k_obey gi gl gr ar1 ar2)) := by
          intro m18
          induction m18 using Nat.strongRecOn with
          | _ m18 ih18 =>
          intro gi18 gl18 gr18 y18_5 hI hX p_a1 p_a2 l18_5 u18_5 c18_0 c18_1 c18_2 j18_0 hm18
          refine ev_loc f_X2_obey (nx := 91) rfl rfl rfl rfl ?_
          refine ev_loc f_X2_obey (nx := 92) rfl rfl rfl rfl ?_
          refine ev_getR f_X2_obey (nx := 95) rfl (hI.wf.s rfl) rfl rfl (hI.wf.r rfl) rfl rfl ?_
          refine ev_getI f_X2_obey (nx := 98) rfl (hI.wf.s rfl) rfl rfl rfl ?_
          obtain ⟨l19, u19⟩ := hI.b (hI.wf.s (k := 46) rfl) (t_bdK rfl : t_bd 3 0 = some (0, 6))
          refine ev_if f_X2_obey (t1 := 113) (t2 := 101) rfl rfl rfl (fun h20 => ?_) (fun h20 => ?_)
          · have r21 : (gi18 46 0).toInt ≤ y18_5.toInt := Int32.le_iff_toInt_le.mp h20
            exact ev_ret f_X2_obey rfl rfl rfl ⟨_, _, _, rfl, hI, hX, ⟨rfl, (show (∀ (P : Nat → Nat → Int) (Z : Nat → Int) (R : List (List Int × Int)), t_KL P gi → t_CZ (P 0 0) Z gi → s_okz P Z → Z 1 = 0 → t_UK gi ar2 R → s_gd R → ((ar1 = 3 ∨ 102 ≤ ar1) ∧ 102 ≤ ar2) → ((∀ m : Nat, P 8 m = (gi ar1 3).toInt + (if (m : Int) < (gi ar1 5).toInt then 0 else (gi ar1 4).toInt)) ∧ (0 ≤ (gi ar1 3).toInt ∧ (gi ar1 3).toInt ≤ 20) ∧ 0 ≤ (gi ar1 4).toInt ∧ (gi ar1 4).toInt ≤ 20) → t_CZ (P 0 0) (s_ob P (fun F => s_ac F R) (gi 45 5).toInt Z) gi18) from (fun P Z R hL hZ hO h1 hU hg hv hT => (by
                                                            obtain ⟨Y, h1_, h2, h3, h4⟩ := j18_0 P Z R hL hZ hO h1 hU hg hv hT
                                                            have hXX := hX
                                                            have hL1 := hL.fr (congrFun (t_F_nc (t_F_X hXX) rfl (by decide)) 0) (congrFun (t_F_nc (t_F_X hXX) rfl (by decide)) 0) (t_F_nc (t_F_X hXX) rfl (by decide)) (t_F_nc (t_F_X hXX) rfl (by decide)) (t_F_nc (t_F_X hXX) rfl (by decide)) (t_F_nc (t_F_X hXX) rfl (by decide)) (t_F_nc (t_F_X hXX) rfl (by decide)) (t_F_nc (t_F_X hXX) rfl (by decide)) (t_F_nc (t_F_X hXX) rfl (by decide))
                                                            have hm := hL1.1.1.1
                                                            have c0 := t_clamp (i := y18_5) (by omega)
                                                            rw [show (P 0 0).toNat - y18_5.toNatClampNeg = 0 by omega] at h2
                                                            rw [← h2]
                                                            exact h1_)))⟩⟩
          · have r22 : y18_5.toInt < (gi18 46 0).toInt := Int32.lt_iff_toInt_lt.mp (t_nle h20)
            have u23 : y18_5.toInt ≤ 5 := t_ltu (t_nle h20) u19 rfl
            have l24 : 1 ≤ (gi18 46 0).toInt := t_ltl (t_nle h20) l18_5 rfl
            have hXo18 := hX
            refine ev_loc f_X2_obey (nx := 102) rfl rfl rfl rfl ?_
            refine ev_loc f_X2_obey (nx := 104) rfl rfl rfl rfl ?_
            refine ev_qN f_X2_obey (nx := 107) (r := []) rfl rfl rfl rfl rfl rfl rfl (c_k_strikeIfDue hI (y18_5)) rfl hX rfl (fun gi25 gl25 gr25 hI hX hC25 q25 => ?_)
            have ff26 : (gi18 45 5).toInt = (gi 45 5).toInt := congrArg Int32.toInt c18_0
            have q25 : (∀ (P : Nat → Nat → Int) (Z : Nat → Int), t_KL P gi18 → t_CZ (P 0 0) Z gi18 → 0 ≤ y18_5.toInt → y18_5.toInt < P 0 0 → t_CZ (P 0 0) (s_k2 P (gi18 45 5).toInt Z y18_5.toNatClampNeg) gi25) := q25
            replace p_a1 := p_a1.ext hC25.2
            replace p_a2 := p_a2.ext hC25.2
            refine ev_incR f_X2_obey (nx := 110) (c := 1) (l := 1) (u := 6) rfl rfl (by decide) (by decide) l18_5 u23 rfl rfl (by decide) (by decide) rfl (fun z27 e27 l27 u27 => ?_)
            refine ev_jmp f_X2_obey (nx := 89) rfl rfl rfl ?_
            refine ev_sub (lo := [(5, .int z27), (4, .int 1), (3, .int w3), (0, .ref 45), (1, .ref ar1), (2, .ref ar2)]) rfl (t_sc rfl (t_sc rfl (t_sc rfl (t_sc rfl (t_sc rfl (t_sc rfl t_sn)))))) ?_
            exact ih18 _ (by omega) gi25 gl25 gr25 (z27) hI hX p_a1 p_a2 (Int.le_trans (by decide : (0:Int) ≤ 1) l27) u27 ((hC25.1 45 5 rfl).1.trans c18_0) ((hC25.1 45 6 rfl).1.trans c18_1) ((hC25.1 45 7 rfl).1.trans c18_2) (fun P Z R hL hZ hO h1 hU hg hv hT => (by
                                                            obtain ⟨Y, h1_, h2, h3, h4⟩ := j18_0 P Z R hL hZ hO h1 hU hg hv hT
                                                            have hXX := hXo18
                                                            have hL1 := hL.fr (congrFun (t_F_nc (t_F_X hXX) rfl (by decide)) 0) (congrFun (t_F_nc (t_F_X hXX) rfl (by decide)) 0) (t_F_nc (t_F_X hXX) rfl (by decide)) (t_F_nc (t_F_X hXX) rfl (by decide)) (t_F_nc (t_F_X hXX) rfl (by decide)) (t_F_nc (t_F_X hXX) rfl (by decide)) (t_F_nc (t_F_X hXX) rfl (by decide)) (t_F_nc (t_F_X hXX) rfl (by decide)) (t_F_nc (t_F_X hXX) rfl (by decide))
                                                            have hm := hL1.1.1.1
                                                            have c0 := t_clamp (i := y18_5) (by omega)
                                                            have m5 : (gi18 45 5).toInt = (gi 45 5).toInt := congrArg Int32.toInt (t_F_X hXX 45 5 (by decide) rfl).1
                                                            have hx : z27.toNatClampNeg = y18_5.toNatClampNeg + 1 := by have := t_clamp (i := z27) (by omega); omega
                                                            rw [show (P 0 0).toNat - y18_5.toNatClampNeg = ((P 0 0).toNat - z27.toNatClampNeg) + 1 by omega, s_skz_s, s_k1_2 (by omega)] at h2
                                                            have hq := q25 P Y hL1 h1_ (by omega) (by omega)
                                                            rw [m5] at hq
                                                            rw [hx] at h2
                                                            exact ⟨_, hq, by rw [hx]; exact h2, by rw [s_k2_o (by decide) (by omega)]; exact h3, by omega⟩)) rfl
        refine ev_sub (lo := [(5, .int 0), (4, .int 1), (3, .int w3), (0, .ref 45), (1, .ref ar1), (2, .ref ar2)]) rfl (t_sc rfl (t_sc rfl (t_sc rfl (t_sc rfl (t_sc rfl (t_sc rfl t_sn)))))) ?_
        exact L18 _ g17 gl2 gr2 (0) hI hX p_a1 p_a2 (by decide : (0:Int) ≤ (0:Int32).toInt) (Int.le_trans (by decide : (0:Int32).toInt ≤ (0:Int)) (by decide : (0:Int) ≤ 6)) ((by rw [e17]; exact x_up2_off (Or.inr (by decide)) : g17 45 5 = g15 45 5).trans ((by rw [e15]; exact x_up2_off (Or.inr (by decide)) : g15 45 5 = g10 45 5).trans ((by rw [e10]; exact x_up2_off (Or.inr (by decide)) : g10 45 5 = gi2 45 5).trans ((hC2.1 45 5 rfl).1.trans rfl)))) ((by rw [e17]; exact x_up2_off (Or.inr (by decide)) : g17 45 6 = g15 45 6).trans ((by rw [e15]; exact x_up2_off (Or.inr (by decide)) : g15 45 6 = g10 45 6).trans ((by rw [e10]; exact x_up2_off (Or.inr (by decide)) : g10 45 6 = gi2 45 6).trans rfl))) ((by rw [e17]; exact x_up2_off (Or.inr (by decide)) : g17 45 7 = g15 45 7).trans ((by rw [e15]; exact x_up2_off (Or.inr (by decide)) : g15 45 7 = g10 45 7).trans (by rw [e10]; exact x_up2_at _ _ _ _ : g10 45 7 = 3))) (fun P Z R hL hZ hO h1 hU hg hv hT => (by
                                                            have hf := q2 P Z hL hZ hO
                                                            have ho := hO.1
                                                            have fr := t_F_X hC2
                                                            have hU1 : t_UK gi2 ar2 R := hU.eq (fun K a _ => (t_nd_fr hC2 rfl K (Or.inr (by have := hv.2; omega))).1)
                                                            have ha : w3.toInt = s_ac (s_FA P (gi 45 5).toInt Z) R := q3 _ R hf hO.1 hU1 hg
                                                            obtain ⟨z0, z1, -, -, -⟩ := hZ.1
                                                            have g6 : (gi2 45 6).toInt = (gi 45 6).toInt := congrArg Int32.toInt (fr 45 6 (by decide) rfl).1
                                                            have g5 : (gi2 45 5).toInt = (gi 45 5).toInt := congrArg Int32.toInt (fr 45 5 (by decide) rfl).1
                                                            have hY : s_ob P (fun F => s_ac F R) (gi 45 5).toInt Z = s_skz P (gi 45 5).toInt (P 0 0).toNat 0 (s_z (s_z (s_z Z 1 3) 2 ((gi 45 5).toInt + P 8 (gi 45 5).toInt.toNat)) 7 (Z 7 + 1)) := s_ob_y h1 (by rw [← ha]; omega)
                                                            have h0 := hI0.b (hI0.wf.s (k := 45) rfl) (t_bdK rfl : t_bd 2 5 = some (0, 301))
                                                            have h8 := hT.1 (gi 45 5).toInt.toNat
                                                            obtain ⟨⟨b3, b4⟩, b5, b6⟩ := hT.2
                                                            have fa : ∀ j, g10 ar1 j = gi ar1 j := fun j => by rw [e10, x_up2_ne (by have := hv.1; omega), (t_nd_fr hC2 rfl ar1 (by have := hv.1; omega)).1]
                                                            have p3 : (g10 ar1 3).toInt = (gi ar1 3).toInt := congrArg Int32.toInt (fa 3)
                                                            have p4 : (g10 ar1 4).toInt = (gi ar1 4).toInt := congrArg Int32.toInt (fa 4)
                                                            have p5 : (g10 ar1 5).toInt = (gi ar1 5).toInt := congrArg Int32.toInt (fa 5)
                                                            have e8v := s_add e14 rfl p3 (by omega)
                                                            have hz0 := hZ.eq (g1 := gi2) (fun j _ _ => congrFun (t_F_nc fr rfl (by decide)) j) (t_F_nc fr rfl (by decide))
                                                            have hz1 := hz0.tn (g1 := g17) (a := (gi 45 5).toInt + P 8 (gi 45 5).toInt.toNat) (w := Z 7 + 1) (by rw [e17, x_up2_off (Or.inr (by decide)), e15, x_up2_off (Or.inr (by decide)), e10, x_up2_at]; rfl) (by rw [e17, x_up2_off (Or.inr (by decide)), e15, x_up2_at, h8, e8v]; split <;> omega) (fun j a b c d => by by_cases h13 : j = 13; omega; rw [e17, x_up2_off (Or.inr (by omega)), e15, x_up2_off (Or.inr (by omega)), e10, x_up2_off (Or.inr (by omega))]) (funext fun j => by rw [e17, x_up2_off (Or.inl (by decide)), e15, x_up2_off (Or.inl (by decide)), e10, x_up2_off (Or.inl (by decide))])
                                                            refine ⟨_, hz1, ?_, by show s_z _ 7 _ 1 = 3; rw [s_z_ne (by decide), s_z_ne (by decide), s_z_at], by have z0 : (0 : Int32).toInt = 0 := rfl; have := hL.1.2; omega⟩
                                                            rw [hY]; rfl)) rfl
      · have r28 : (g10 ar1 5).toInt ≤ (gi 45 5).toInt := Int32.le_iff_toInt_le.mp (t_nlt h11)
        have u29 : (g10 ar1 5).toInt ≤ 301 := t_leu (t_nlt h11) u1
        refine ev_loc f_X5_turnLength (nx := 9) rfl rfl rfl rfl ?_
        refine ev_loc f_X5_turnLength (nx := 10) rfl rfl rfl rfl ?_
        refine ev_getI f_X5_turnLength (nx := 13) rfl p_a1.1 rfl rfl rfl ?_
        refine ev_anyIE f_X5_turnLength (nx := 14) rfl rfl rfl rfl (fun z30 e30 => ?_)
        refine ev_jmp f_X5_turnLength (nx := 18) rfl rfl rfl ?_
        refine ev_retK1 f_X5_turnLength rfl rfl rfl ?_
        refine ev_anyIE f_X2_obey (nx := 73) rfl rfl rfl rfl (fun z31 e31 => ?_)
        refine ev_putIT f_X2_obey (nx := 76) rfl (hI.wf.s rfl) rfl rfl rfl (hI.put0 (hI.wf.s rfl) rfl rfl) (hX.upI rfl) (fun g32 e32 hI hX => ?_)
        refine ev_loc f_X2_obey (nx := 77) rfl rfl rfl rfl ?_
        refine ev_alu f_X2_obey (nx := 78) rfl rfl rfl rfl ?_
        refine ev_getI f_X2_obey (nx := 81) rfl (hI.wf.s rfl) rfl rfl rfl ?_
        refine ev_ic f_X2_obey (nx := 82) (v := 1) rfl (by decide) rfl ?_
        refine ev_anyIE f_X2_obey (nx := 83) rfl rfl rfl rfl (fun z33 e33 => ?_)
        refine ev_putIT f_X2_obey (nx := 86) rfl (hI.wf.s rfl) rfl rfl rfl (hI.put0 (hI.wf.s rfl) rfl rfl) (hX.upI rfl) (fun g34 e34 hI hX => ?_)
        refine ev_ic f_X2_obey (nx := 87) (v := 0) rfl (by decide) rfl ?_
        refine ev_loc f_X2_obey (nx := 89) (lo' := [(5, .int 0), (4, .int 1), (3, .int w3), (0, .ref 45), (1, .ref ar1), (2, .ref ar2)]) rfl rfl rfl rfl ?_
        have L35 : ∀ (m35 : Nat) (gi35 : Nat → Nat → Int32) (gl35 : Nat → Nat → Int64) (gr35 : Nat → Nat → Value) (y35_5 : Int32), t_I sh gi35 gr35 → t_X wl_k_obey sh gi gl gr gi35 gl35 gr35 → t_Rv sh gr35 ar1 → t_Ru sh gr35 ar2 → 0 ≤ y35_5.toInt → y35_5.toInt ≤ 6 → gi35 45 5 = (gi 45 5) → gi35 45 6 = (gi2 45 6) → gi35 45 7 = 3 → (∀ (P : Nat → Nat → Int) (Z : Nat → Int) (R : List (List Int × Int)), t_KL P gi → t_CZ (P 0 0) Z gi → s_okz P Z → Z 1 = 0 → t_UK gi ar2 R → s_gd R → ((ar1 = 3 ∨ 102 ≤ ar1) ∧ 102 ≤ ar2) → ((∀ m : Nat, P 8 m = (gi ar1 3).toInt + (if (m : Int) < (gi ar1 5).toInt then 0 else (gi ar1 4).toInt)) ∧ (0 ≤ (gi ar1 3).toInt ∧ (gi ar1 3).toInt ≤ 20) ∧ 0 ≤ (gi ar1 4).toInt ∧ (gi ar1 4).toInt ≤ 20) → ∃ Y, t_CZ (P 0 0) Y gi35 ∧ s_skz P (gi 45 5).toInt ((P 0 0).toNat - y35_5.toNatClampNeg) y35_5.toNatClampNeg Y = s_ob P (fun F => s_ac F R) (gi 45 5).toInt Z ∧ Y 1 = 3 ∧ y35_5.toInt ≤ P 0 0) → (6 - y35_5.toInt).toNat = m35 → x_Ev X (d + 4) n_X2_obey 89 [(5, .int y35_5), (4, .int 1), (3, .int w3), (0, .ref 45), (1, .ref ar1), (2, .ref ar2)] [] (sh, gi35, gl35, gr35) (t_PN wl_k_obey sh gi gl gr (Q_k_obey gi gl gr ar1 ar2)) := by
          intro m35
          induction m35 using Nat.strongRecOn with
          | _ m35 ih35 =>
          intro gi35 gl35 gr35 y35_5 hI hX p_a1 p_a2 l35_5 u35_5 c35_0 c35_1 c35_2 j35_0 hm35
          refine ev_loc f_X2_obey (nx := 91) rfl rfl rfl rfl ?_
          refine ev_loc f_X2_obey (nx := 92) rfl rfl rfl rfl ?_
          refine ev_getR f_X2_obey (nx := 95) rfl (hI.wf.s rfl) rfl rfl (hI.wf.r rfl) rfl rfl ?_
          refine ev_getI f_X2_obey (nx := 98) rfl (hI.wf.s rfl) rfl rfl rfl ?_
          obtain ⟨l36, u36⟩ := hI.b (hI.wf.s (k := 46) rfl) (t_bdK rfl : t_bd 3 0 = some (0, 6))
          refine ev_if f_X2_obey (t1 := 113) (t2 := 101) rfl rfl rfl (fun h37 => ?_) (fun h37 => ?_)
          · have r38 : (gi35 46 0).toInt ≤ y35_5.toInt := Int32.le_iff_toInt_le.mp h37
            exact ev_ret f_X2_obey rfl rfl rfl ⟨_, _, _, rfl, hI, hX, ⟨rfl, (show (∀ (P : Nat → Nat → Int) (Z : Nat → Int) (R : List (List Int × Int)), t_KL P gi → t_CZ (P 0 0) Z gi → s_okz P Z → Z 1 = 0 → t_UK gi ar2 R → s_gd R → ((ar1 = 3 ∨ 102 ≤ ar1) ∧ 102 ≤ ar2) → ((∀ m : Nat, P 8 m = (gi ar1 3).toInt + (if (m : Int) < (gi ar1 5).toInt then 0 else (gi ar1 4).toInt)) ∧ (0 ≤ (gi ar1 3).toInt ∧ (gi ar1 3).toInt ≤ 20) ∧ 0 ≤ (gi ar1 4).toInt ∧ (gi ar1 4).toInt ≤ 20) → t_CZ (P 0 0) (s_ob P (fun F => s_ac F R) (gi 45 5).toInt Z) gi35) from (fun P Z R hL hZ hO h1 hU hg hv hT => (by
                                                            obtain ⟨Y, h1_, h2, h3, h4⟩ := j35_0 P Z R hL hZ hO h1 hU hg hv hT
                                                            have hXX := hX
                                                            have hL1 := hL.fr (congrFun (t_F_nc (t_F_X hXX) rfl (by decide)) 0) (congrFun (t_F_nc (t_F_X hXX) rfl (by decide)) 0) (t_F_nc (t_F_X hXX) rfl (by decide)) (t_F_nc (t_F_X hXX) rfl (by decide)) (t_F_nc (t_F_X hXX) rfl (by decide)) (t_F_nc (t_F_X hXX) rfl (by decide)) (t_F_nc (t_F_X hXX) rfl (by decide)) (t_F_nc (t_F_X hXX) rfl (by decide)) (t_F_nc (t_F_X hXX) rfl (by decide))
                                                            have hm := hL1.1.1.1
                                                            have c0 := t_clamp (i := y35_5) (by omega)
                                                            rw [show (P 0 0).toNat - y35_5.toNatClampNeg = 0 by omega] at h2
                                                            rw [← h2]
                                                            exact h1_)))⟩⟩
          · have r39 : y35_5.toInt < (gi35 46 0).toInt := Int32.lt_iff_toInt_lt.mp (t_nle h37)
            have u40 : y35_5.toInt ≤ 5 := t_ltu (t_nle h37) u36 rfl
            have l41 : 1 ≤ (gi35 46 0).toInt := t_ltl (t_nle h37) l35_5 rfl
            have hXo35 := hX
            refine ev_loc f_X2_obey (nx := 102) rfl rfl rfl rfl ?_
            refine ev_loc f_X2_obey (nx := 104) rfl rfl rfl rfl ?_
            refine ev_qN f_X2_obey (nx := 107) (r := []) rfl rfl rfl rfl rfl rfl rfl (c_k_strikeIfDue hI (y35_5)) rfl hX rfl (fun gi42 gl42 gr42 hI hX hC42 q42 => ?_)
            have ff43 : (gi35 45 5).toInt = (gi 45 5).toInt := congrArg Int32.toInt c35_0
            have q42 : (∀ (P : Nat → Nat → Int) (Z : Nat → Int), t_KL P gi35 → t_CZ (P 0 0) Z gi35 → 0 ≤ y35_5.toInt → y35_5.toInt < P 0 0 → t_CZ (P 0 0) (s_k2 P (gi35 45 5).toInt Z y35_5.toNatClampNeg) gi42) := q42
            replace p_a1 := p_a1.ext hC42.2
            replace p_a2 := p_a2.ext hC42.2
            refine ev_incR f_X2_obey (nx := 110) (c := 1) (l := 1) (u := 6) rfl rfl (by decide) (by decide) l35_5 u40 rfl rfl (by decide) (by decide) rfl (fun z44 e44 l44 u44 => ?_)
            refine ev_jmp f_X2_obey (nx := 89) rfl rfl rfl ?_
            refine ev_sub (lo := [(5, .int z44), (4, .int 1), (3, .int w3), (0, .ref 45), (1, .ref ar1), (2, .ref ar2)]) rfl (t_sc rfl (t_sc rfl (t_sc rfl (t_sc rfl (t_sc rfl (t_sc rfl t_sn)))))) ?_
            exact ih35 _ (by omega) gi42 gl42 gr42 (z44) hI hX p_a1 p_a2 (Int.le_trans (by decide : (0:Int) ≤ 1) l44) u44 ((hC42.1 45 5 rfl).1.trans c35_0) ((hC42.1 45 6 rfl).1.trans c35_1) ((hC42.1 45 7 rfl).1.trans c35_2) (fun P Z R hL hZ hO h1 hU hg hv hT => (by
                                                            obtain ⟨Y, h1_, h2, h3, h4⟩ := j35_0 P Z R hL hZ hO h1 hU hg hv hT
                                                            have hXX := hXo35
                                                            have hL1 := hL.fr (congrFun (t_F_nc (t_F_X hXX) rfl (by decide)) 0) (congrFun (t_F_nc (t_F_X hXX) rfl (by decide)) 0) (t_F_nc (t_F_X hXX) rfl (by decide)) (t_F_nc (t_F_X hXX) rfl (by decide)) (t_F_nc (t_F_X hXX) rfl (by decide)) (t_F_nc (t_F_X hXX) rfl (by decide)) (t_F_nc (t_F_X hXX) rfl (by decide)) (t_F_nc (t_F_X hXX) rfl (by decide)) (t_F_nc (t_F_X hXX) rfl (by decide))
                                                            have hm := hL1.1.1.1
                                                            have c0 := t_clamp (i := y35_5) (by omega)
                                                            have m5 : (gi35 45 5).toInt = (gi 45 5).toInt := congrArg Int32.toInt (t_F_X hXX 45 5 (by decide) rfl).1
                                                            have hx : z44.toNatClampNeg = y35_5.toNatClampNeg + 1 := by have := t_clamp (i := z44) (by omega); omega
                                                            rw [show (P 0 0).toNat - y35_5.toNatClampNeg = ((P 0 0).toNat - z44.toNatClampNeg) + 1 by omega, s_skz_s, s_k1_2 (by omega)] at h2
                                                            have hq := q42 P Y hL1 h1_ (by omega) (by omega)
                                                            rw [m5] at hq
                                                            rw [hx] at h2
                                                            exact ⟨_, hq, by rw [hx]; exact h2, by rw [s_k2_o (by decide) (by omega)]; exact h3, by omega⟩)) rfl
        refine ev_sub (lo := [(5, .int 0), (4, .int 1), (3, .int w3), (0, .ref 45), (1, .ref ar1), (2, .ref ar2)]) rfl (t_sc rfl (t_sc rfl (t_sc rfl (t_sc rfl (t_sc rfl (t_sc rfl t_sn)))))) ?_
        exact L35 _ g34 gl2 gr2 (0) hI hX p_a1 p_a2 (by decide : (0:Int) ≤ (0:Int32).toInt) (Int.le_trans (by decide : (0:Int32).toInt ≤ (0:Int)) (by decide : (0:Int) ≤ 6)) ((by rw [e34]; exact x_up2_off (Or.inr (by decide)) : g34 45 5 = g32 45 5).trans ((by rw [e32]; exact x_up2_off (Or.inr (by decide)) : g32 45 5 = g10 45 5).trans ((by rw [e10]; exact x_up2_off (Or.inr (by decide)) : g10 45 5 = gi2 45 5).trans ((hC2.1 45 5 rfl).1.trans rfl)))) ((by rw [e34]; exact x_up2_off (Or.inr (by decide)) : g34 45 6 = g32 45 6).trans ((by rw [e32]; exact x_up2_off (Or.inr (by decide)) : g32 45 6 = g10 45 6).trans ((by rw [e10]; exact x_up2_off (Or.inr (by decide)) : g10 45 6 = gi2 45 6).trans rfl))) ((by rw [e34]; exact x_up2_off (Or.inr (by decide)) : g34 45 7 = g32 45 7).trans ((by rw [e32]; exact x_up2_off (Or.inr (by decide)) : g32 45 7 = g10 45 7).trans (by rw [e10]; exact x_up2_at _ _ _ _ : g10 45 7 = 3))) (fun P Z R hL hZ hO h1 hU hg hv hT => (by
                                                            have hf := q2 P Z hL hZ hO
                                                            have ho := hO.1
                                                            have fr := t_F_X hC2
                                                            have hU1 : t_UK gi2 ar2 R := hU.eq (fun K a _ => (t_nd_fr hC2 rfl K (Or.inr (by have := hv.2; omega))).1)
                                                            have ha : w3.toInt = s_ac (s_FA P (gi 45 5).toInt Z) R := q3 _ R hf hO.1 hU1 hg
                                                            obtain ⟨z0, z1, -, -, -⟩ := hZ.1
                                                            have g6 : (gi2 45 6).toInt = (gi 45 6).toInt := congrArg Int32.toInt (fr 45 6 (by decide) rfl).1
                                                            have g5 : (gi2 45 5).toInt = (gi 45 5).toInt := congrArg Int32.toInt (fr 45 5 (by decide) rfl).1
                                                            have hY : s_ob P (fun F => s_ac F R) (gi 45 5).toInt Z = s_skz P (gi 45 5).toInt (P 0 0).toNat 0 (s_z (s_z (s_z Z 1 3) 2 ((gi 45 5).toInt + P 8 (gi 45 5).toInt.toNat)) 7 (Z 7 + 1)) := s_ob_y h1 (by rw [← ha]; omega)
                                                            have h0 := hI0.b (hI0.wf.s (k := 45) rfl) (t_bdK rfl : t_bd 2 5 = some (0, 301))
                                                            have h8 := hT.1 (gi 45 5).toInt.toNat
                                                            obtain ⟨⟨b3, b4⟩, b5, b6⟩ := hT.2
                                                            have fa : ∀ j, g10 ar1 j = gi ar1 j := fun j => by rw [e10, x_up2_ne (by have := hv.1; omega), (t_nd_fr hC2 rfl ar1 (by have := hv.1; omega)).1]
                                                            have p3 : (g10 ar1 3).toInt = (gi ar1 3).toInt := congrArg Int32.toInt (fa 3)
                                                            have p4 : (g10 ar1 4).toInt = (gi ar1 4).toInt := congrArg Int32.toInt (fa 4)
                                                            have p5 : (g10 ar1 5).toInt = (gi ar1 5).toInt := congrArg Int32.toInt (fa 5)
                                                            have el := s_add e30 p3 p4 (by omega)
                                                            have e8v := s_add e31 rfl el (by omega)
                                                            have hz0 := hZ.eq (g1 := gi2) (fun j _ _ => congrFun (t_F_nc fr rfl (by decide)) j) (t_F_nc fr rfl (by decide))
                                                            have hz1 := hz0.tn (g1 := g34) (a := (gi 45 5).toInt + P 8 (gi 45 5).toInt.toNat) (w := Z 7 + 1) (by rw [e34, x_up2_off (Or.inr (by decide)), e32, x_up2_off (Or.inr (by decide)), e10, x_up2_at]; rfl) (by rw [e34, x_up2_off (Or.inr (by decide)), e32, x_up2_at, h8, e8v]; split <;> omega) (fun j a b c d => by by_cases h13 : j = 13; omega; rw [e34, x_up2_off (Or.inr (by omega)), e32, x_up2_off (Or.inr (by omega)), e10, x_up2_off (Or.inr (by omega))]) (funext fun j => by rw [e34, x_up2_off (Or.inl (by decide)), e32, x_up2_off (Or.inl (by decide)), e10, x_up2_off (Or.inl (by decide))])
                                                            refine ⟨_, hz1, ?_, by show s_z _ 7 _ 1 = 3; rw [s_z_ne (by decide), s_z_ne (by decide), s_z_at], by have z0 : (0 : Int32).toInt = 0 := rfl; have := hL.1.2; omega⟩
                                                            rw [hY]; rfl)) rfl
    · have r45 : w3.toInt ≠ 0 := fun e => h7 (Int32.toInt_inj.mp (e.trans (by decide : (0:Int) = (0 : Int32).toInt)))
      refine ev_ic f_X2_obey (nx := 42) (v := 0) rfl (by decide) rfl ?_
      refine ev_loc f_X2_obey (nx := 44) (lo' := [(4, .int 0), (3, .int w3), (0, .ref 45), (1, .ref ar1), (2, .ref ar2)]) rfl rfl rfl rfl ?_
      refine ev_loc f_X2_obey (nx := 46) rfl rfl rfl rfl ?_
      refine ev_t f_X2_obey (t1 := 49) (t2 := 50) rfl rfl rfl (by decide) ?_
      exact ev_ret f_X2_obey rfl rfl rfl ⟨_, _, _, rfl, hI, hX, ⟨rfl, (show (∀ (P : Nat → Nat → Int) (Z : Nat → Int) (R : List (List Int × Int)), t_KL P gi → t_CZ (P 0 0) Z gi → s_okz P Z → Z 1 = 0 → t_UK gi ar2 R → s_gd R → ((ar1 = 3 ∨ 102 ≤ ar1) ∧ 102 ≤ ar2) → ((∀ m : Nat, P 8 m = (gi ar1 3).toInt + (if (m : Int) < (gi ar1 5).toInt then 0 else (gi ar1 4).toInt)) ∧ (0 ≤ (gi ar1 3).toInt ∧ (gi ar1 3).toInt ≤ 20) ∧ 0 ≤ (gi ar1 4).toInt ∧ (gi ar1 4).toInt ≤ 20) → t_CZ (P 0 0) (s_ob P (fun F => s_ac F R) (gi 45 5).toInt Z) gi2) from (fun P Z R hL hZ hO h1 hU hg hv hT => (by
                                                            have hf := q2 P Z hL hZ hO
                                                            have ho := hO.1
                                                            have fr := t_F_X hC2
                                                            have hU1 : t_UK gi2 ar2 R := hU.eq (fun K a _ => (t_nd_fr hC2 rfl K (Or.inr (by have := hv.2; omega))).1)
                                                            have ha : w3.toInt = s_ac (s_FA P (gi 45 5).toInt Z) R := q3 _ R hf hO.1 hU1 hg
                                                            obtain ⟨z0, z1, -, -, -⟩ := hZ.1
                                                            have g6 : (gi2 45 6).toInt = (gi 45 6).toInt := congrArg Int32.toInt (fr 45 6 (by decide) rfl).1
                                                            have g5 : (gi2 45 5).toInt = (gi 45 5).toInt := congrArg Int32.toInt (fr 45 5 (by decide) rfl).1
                                                            rw [s_ob_n (A := (fun F => s_ac F R)) (by show ¬ ((_ ∧ s_ac _ R = 1) ∨ (_ ∧ s_ac _ R = 0)); rw [← ha]; omega)]
                                                            exact hZ.eq (fun j _ _ => congrFun (t_F_nc fr rfl (by decide)) j) (t_F_nc fr rfl (by decide)))))⟩⟩
  · have r46 : (gi2 45 6).toInt ≠ 0 := fun e => h4 (Int32.toInt_inj.mp (e.trans (by decide : (0:Int) = (0 : Int32).toInt)))
    refine ev_loc f_X2_obey (nx := 21) rfl rfl rfl rfl ?_
    refine ev_ic f_X2_obey (nx := 22) (v := 1) rfl (by decide) rfl ?_
    refine ev_if f_X2_obey (t1 := 25) (t2 := 29) rfl rfl rfl (fun h47 => ?_) (fun h47 => ?_)
    · have u48 : w3.toInt ≤ 1 := t_equ h47 (by decide : (1:Int32).toInt ≤ (1:Int))
      have l49 : 1 ≤ w3.toInt := t_eql h47 (by decide : (1:Int) ≤ (1:Int32).toInt)
      refine ev_ic f_X2_obey (nx := 26) (v := 1) rfl (by decide) rfl ?_
      refine ev_jmp f_X2_obey (nx := 42) rfl rfl rfl ?_
      refine ev_loc f_X2_obey (nx := 44) (lo' := [(4, .int 1), (3, .int w3), (0, .ref 45), (1, .ref ar1), (2, .ref ar2)]) rfl rfl rfl rfl ?_
      refine ev_loc f_X2_obey (nx := 46) rfl rfl rfl rfl ?_
      refine ev_f f_X2_obey (t1 := 49) (t2 := 50) rfl rfl rfl (by decide) ?_
      refine ev_loc f_X2_obey (nx := 51) rfl rfl rfl rfl ?_
      refine ev_ic f_X2_obey (nx := 52) (v := 3) rfl (by decide) rfl ?_
      refine ev_putIT f_X2_obey (nx := 55) rfl (hI.wf.s rfl) rfl rfl rfl (hI.put0 (hI.wf.s rfl) rfl rfl) (hX.upI rfl) (fun g50 e50 hI hX => ?_)
      refine ev_loc f_X2_obey (nx := 56) rfl rfl rfl rfl ?_
      refine ev_loc f_X2_obey (nx := 57) rfl rfl rfl rfl ?_
      refine ev_gvI f_X2_obey (nx := 60) (w := (gi 45 5)) rfl (hI.wf.s rfl) rfl rfl ((by rw [e50]; exact x_up2_off (Or.inr (by decide)) : g50 45 5 = gi2 45 5).trans ((hC2.1 45 5 rfl).1.trans rfl)) rfl ?_
      refine ev_loc f_X2_obey (nx := 61) rfl rfl rfl rfl ?_
      refine ev_loc f_X2_obey (nx := 62) rfl rfl rfl rfl ?_
      refine ev_getI f_X2_obey (nx := 65) rfl p_a1.1 rfl rfl rfl ?_
      refine ev_loc f_X2_obey (nx := 66) rfl rfl rfl rfl ?_
      refine ev_gvI f_X2_obey (nx := 69) (w := (gi 45 5)) rfl (hI.wf.s rfl) rfl rfl ((by rw [e50]; exact x_up2_off (Or.inr (by decide)) : g50 45 5 = gi2 45 5).trans ((hC2.1 45 5 rfl).1.trans rfl)) rfl ?_
      refine ev_inV3 f_X2_obey (nx := 72) (lo2 := [(0, .ref ar1), (1, .int (g50 ar1 3)), (2, .int (gi 45 5))]) rfl rfl rfl rfl f_X5_turnLength p_a1.1 rfl rfl rfl rfl rfl ?_
      refine ev_loc f_X5_turnLength (nx := 1) rfl rfl rfl rfl ?_
      refine ev_loc f_X5_turnLength (nx := 2) rfl rfl rfl rfl ?_
      refine ev_getI f_X5_turnLength (nx := 5) rfl p_a1.1 rfl rfl rfl ?_
      refine ev_if f_X5_turnLength (t1 := 17) (t2 := 8) rfl rfl rfl (fun h51 => ?_) (fun h51 => ?_)
      · have r52 : (gi 45 5).toInt < (g50 ar1 5).toInt := Int32.lt_iff_toInt_lt.mp h51
        have l53 : 1 ≤ (g50 ar1 5).toInt := t_ltl h51 l1 rfl
        refine ev_loc f_X5_turnLength (nx := 18) rfl rfl rfl rfl ?_
        refine ev_retK1 f_X5_turnLength rfl rfl rfl ?_
        refine ev_anyIE f_X2_obey (nx := 73) rfl rfl rfl rfl (fun z54 e54 => ?_)
        refine ev_putIT f_X2_obey (nx := 76) rfl (hI.wf.s rfl) rfl rfl rfl (hI.put0 (hI.wf.s rfl) rfl rfl) (hX.upI rfl) (fun g55 e55 hI hX => ?_)
        refine ev_loc f_X2_obey (nx := 77) rfl rfl rfl rfl ?_
        refine ev_alu f_X2_obey (nx := 78) rfl rfl rfl rfl ?_
        refine ev_getI f_X2_obey (nx := 81) rfl (hI.wf.s rfl) rfl rfl rfl ?_
        refine ev_ic f_X2_obey (nx := 82) (v := 1) rfl (by decide) rfl ?_
        refine ev_anyIE f_X2_obey (nx := 83) rfl rfl rfl rfl (fun z56 e56 => ?_)
        refine ev_putIT f_X2_obey (nx := 86) rfl (hI.wf.s rfl) rfl rfl rfl (hI.put0 (hI.wf.s rfl) rfl rfl) (hX.upI rfl) (fun g57 e57 hI hX => ?_)
        refine ev_ic f_X2_obey (nx := 87) (v := 0) rfl (by decide) rfl ?_
        refine ev_loc f_X2_obey (nx := 89) (lo' := [(5, .int 0), (4, .int 1), (3, .int w3), (0, .ref 45), (1, .ref ar1), (2, .ref ar2)]) rfl rfl rfl rfl ?_
        have L58 : ∀ (m58 : Nat) (gi58 : Nat → Nat → Int32) (gl58 : Nat → Nat → Int64) (gr58 : Nat → Nat → Value) (y58_5 : Int32), t_I sh gi58 gr58 → t_X wl_k_obey sh gi gl gr gi58 gl58 gr58 → t_Rv sh gr58 ar1 → t_Ru sh gr58 ar2 → 0 ≤ y58_5.toInt → y58_5.toInt ≤ 6 → gi58 45 5 = (gi 45 5) → gi58 45 6 = (gi2 45 6) → gi58 45 7 = 3 → (∀ (P : Nat → Nat → Int) (Z : Nat → Int) (R : List (List Int × Int)), t_KL P gi → t_CZ (P 0 0) Z gi → s_okz P Z → Z 1 = 0 → t_UK gi ar2 R → s_gd R → ((ar1 = 3 ∨ 102 ≤ ar1) ∧ 102 ≤ ar2) → ((∀ m : Nat, P 8 m = (gi ar1 3).toInt + (if (m : Int) < (gi ar1 5).toInt then 0 else (gi ar1 4).toInt)) ∧ (0 ≤ (gi ar1 3).toInt ∧ (gi ar1 3).toInt ≤ 20) ∧ 0 ≤ (gi ar1 4).toInt ∧ (gi ar1 4).toInt ≤ 20) → ∃ Y, t_CZ (P 0 0) Y gi58 ∧ s_skz P (gi 45 5).toInt ((P 0 0).toNat - y58_5.toNatClampNeg) y58_5.toNatClampNeg Y = s_ob P (fun F => s_ac F R) (gi 45 5).toInt Z ∧ Y 1 = 3 ∧ y58_5.toInt ≤ P 0 0) → (6 - y58_5.toInt).toNat = m58 → x_Ev X (d + 4) n_X2_obey 89 [(5, .int y58_5), (4, .int 1), (3, .int w3), (0, .ref 45), (1, .ref ar1), (2, .ref ar2)] [] (sh, gi58, gl58, gr58) (t_PN wl_k_obey sh gi gl gr (Q_k_obey gi gl gr ar1 ar2)) := by
          intro m58
          induction m58 using Nat.strongRecOn with
          | _ m58 ih58 =>
          intro gi58 gl58 gr58 y58_5 hI hX p_a1 p_a2 l58_5 u58_5 c58_0 c58_1 c58_2 j58_0 hm58
          refine ev_loc f_X2_obey (nx := 91) rfl rfl rfl rfl ?_
          refine ev_loc f_X2_obey (nx := 92) rfl rfl rfl rfl ?_
          refine ev_getR f_X2_obey (nx := 95) rfl (hI.wf.s rfl) rfl rfl (hI.wf.r rfl) rfl rfl ?_
          refine ev_getI f_X2_obey (nx := 98) rfl (hI.wf.s rfl) rfl rfl rfl ?_
          obtain ⟨l59, u59⟩ := hI.b (hI.wf.s (k := 46) rfl) (t_bdK rfl : t_bd 3 0 = some (0, 6))
          refine ev_if f_X2_obey (t1 := 113) (t2 := 101) rfl rfl rfl (fun h60 => ?_) (fun h60 => ?_)
          · have r61 : (gi58 46 0).toInt ≤ y58_5.toInt := Int32.le_iff_toInt_le.mp h60
            exact ev_ret f_X2_obey rfl rfl rfl ⟨_, _, _, rfl, hI, hX, ⟨rfl, (show (∀ (P : Nat → Nat → Int) (Z : Nat → Int) (R : List (List Int × Int)), t_KL P gi → t_CZ (P 0 0) Z gi → s_okz P Z → Z 1 = 0 → t_UK gi ar2 R → s_gd R → ((ar1 = 3 ∨ 102 ≤ ar1) ∧ 102 ≤ ar2) → ((∀ m : Nat, P 8 m = (gi ar1 3).toInt + (if (m : Int) < (gi ar1 5).toInt then 0 else (gi ar1 4).toInt)) ∧ (0 ≤ (gi ar1 3).toInt ∧ (gi ar1 3).toInt ≤ 20) ∧ 0 ≤ (gi ar1 4).toInt ∧ (gi ar1 4).toInt ≤ 20) → t_CZ (P 0 0) (s_ob P (fun F => s_ac F R) (gi 45 5).toInt Z) gi58) from (fun P Z R hL hZ hO h1 hU hg hv hT => (by
                                                            obtain ⟨Y, h1_, h2, h3, h4⟩ := j58_0 P Z R hL hZ hO h1 hU hg hv hT
                                                            have hXX := hX
                                                            have hL1 := hL.fr (congrFun (t_F_nc (t_F_X hXX) rfl (by decide)) 0) (congrFun (t_F_nc (t_F_X hXX) rfl (by decide)) 0) (t_F_nc (t_F_X hXX) rfl (by decide)) (t_F_nc (t_F_X hXX) rfl (by decide)) (t_F_nc (t_F_X hXX) rfl (by decide)) (t_F_nc (t_F_X hXX) rfl (by decide)) (t_F_nc (t_F_X hXX) rfl (by decide)) (t_F_nc (t_F_X hXX) rfl (by decide)) (t_F_nc (t_F_X hXX) rfl (by decide))
                                                            have hm := hL1.1.1.1
                                                            have c0 := t_clamp (i := y58_5) (by omega)
                                                            rw [show (P 0 0).toNat - y58_5.toNatClampNeg = 0 by omega] at h2
                                                            rw [← h2]
                                                            exact h1_)))⟩⟩
          · have r62 : y58_5.toInt < (gi58 46 0).toInt := Int32.lt_iff_toInt_lt.mp (t_nle h60)
            have u63 : y58_5.toInt ≤ 5 := t_ltu (t_nle h60) u59 rfl
            have l64 : 1 ≤ (gi58 46 0).toInt := t_ltl (t_nle h60) l58_5 rfl
            have hXo58 := hX
            refine ev_loc f_X2_obey (nx := 102) rfl rfl rfl rfl ?_
            refine ev_loc f_X2_obey (nx := 104) rfl rfl rfl rfl ?_
            refine ev_qN f_X2_obey (nx := 107) (r := []) rfl rfl rfl rfl rfl rfl rfl (c_k_strikeIfDue hI (y58_5)) rfl hX rfl (fun gi65 gl65 gr65 hI hX hC65 q65 => ?_)
            have ff66 : (gi58 45 5).toInt = (gi 45 5).toInt := congrArg Int32.toInt c58_0
            have q65 : (∀ (P : Nat → Nat → Int) (Z : Nat → Int), t_KL P gi58 → t_CZ (P 0 0) Z gi58 → 0 ≤ y58_5.toInt → y58_5.toInt < P 0 0 → t_CZ (P 0 0) (s_k2 P (gi58 45 5).toInt Z y58_5.toNatClampNeg) gi65) := q65
            replace p_a1 := p_a1.ext hC65.2
            replace p_a2 := p_a2.ext hC65.2
            refine ev_incR f_X2_obey (nx := 110) (c := 1) (l := 1) (u := 6) rfl rfl (by decide) (by decide) l58_5 u63 rfl rfl (by decide) (by decide) rfl (fun z67 e67 l67 u67 => ?_)
            refine ev_jmp f_X2_obey (nx := 89) rfl rfl rfl ?_
            refine ev_sub (lo := [(5, .int z67), (4, .int 1), (3, .int w3), (0, .ref 45), (1, .ref ar1), (2, .ref ar2)]) rfl (t_sc rfl (t_sc rfl (t_sc rfl (t_sc rfl (t_sc rfl (t_sc rfl t_sn)))))) ?_
            exact ih58 _ (by omega) gi65 gl65 gr65 (z67) hI hX p_a1 p_a2 (Int.le_trans (by decide : (0:Int) ≤ 1) l67) u67 ((hC65.1 45 5 rfl).1.trans c58_0) ((hC65.1 45 6 rfl).1.trans c58_1) ((hC65.1 45 7 rfl).1.trans c58_2) (fun P Z R hL hZ hO h1 hU hg hv hT => (by
                                                            obtain ⟨Y, h1_, h2, h3, h4⟩ := j58_0 P Z R hL hZ hO h1 hU hg hv hT
                                                            have hXX := hXo58
                                                            have hL1 := hL.fr (congrFun (t_F_nc (t_F_X hXX) rfl (by decide)) 0) (congrFun (t_F_nc (t_F_X hXX) rfl (by decide)) 0) (t_F_nc (t_F_X hXX) rfl (by decide)) (t_F_nc (t_F_X hXX) rfl (by decide)) (t_F_nc (t_F_X hXX) rfl (by decide)) (t_F_nc (t_F_X hXX) rfl (by decide)) (t_F_nc (t_F_X hXX) rfl (by decide)) (t_F_nc (t_F_X hXX) rfl (by decide)) (t_F_nc (t_F_X hXX) rfl (by decide))
                                                            have hm := hL1.1.1.1
                                                            have c0 := t_clamp (i := y58_5) (by omega)
                                                            have m5 : (gi58 45 5).toInt = (gi 45 5).toInt := congrArg Int32.toInt (t_F_X hXX 45 5 (by decide) rfl).1
                                                            have hx : z67.toNatClampNeg = y58_5.toNatClampNeg + 1 := by have := t_clamp (i := z67) (by omega); omega
                                                            rw [show (P 0 0).toNat - y58_5.toNatClampNeg = ((P 0 0).toNat - z67.toNatClampNeg) + 1 by omega, s_skz_s, s_k1_2 (by omega)] at h2
                                                            have hq := q65 P Y hL1 h1_ (by omega) (by omega)
                                                            rw [m5] at hq
                                                            rw [hx] at h2
                                                            exact ⟨_, hq, by rw [hx]; exact h2, by rw [s_k2_o (by decide) (by omega)]; exact h3, by omega⟩)) rfl
        refine ev_sub (lo := [(5, .int 0), (4, .int 1), (3, .int w3), (0, .ref 45), (1, .ref ar1), (2, .ref ar2)]) rfl (t_sc rfl (t_sc rfl (t_sc rfl (t_sc rfl (t_sc rfl (t_sc rfl t_sn)))))) ?_
        exact L58 _ g57 gl2 gr2 (0) hI hX p_a1 p_a2 (by decide : (0:Int) ≤ (0:Int32).toInt) (Int.le_trans (by decide : (0:Int32).toInt ≤ (0:Int)) (by decide : (0:Int) ≤ 6)) ((by rw [e57]; exact x_up2_off (Or.inr (by decide)) : g57 45 5 = g55 45 5).trans ((by rw [e55]; exact x_up2_off (Or.inr (by decide)) : g55 45 5 = g50 45 5).trans ((by rw [e50]; exact x_up2_off (Or.inr (by decide)) : g50 45 5 = gi2 45 5).trans ((hC2.1 45 5 rfl).1.trans rfl)))) ((by rw [e57]; exact x_up2_off (Or.inr (by decide)) : g57 45 6 = g55 45 6).trans ((by rw [e55]; exact x_up2_off (Or.inr (by decide)) : g55 45 6 = g50 45 6).trans ((by rw [e50]; exact x_up2_off (Or.inr (by decide)) : g50 45 6 = gi2 45 6).trans rfl))) ((by rw [e57]; exact x_up2_off (Or.inr (by decide)) : g57 45 7 = g55 45 7).trans ((by rw [e55]; exact x_up2_off (Or.inr (by decide)) : g55 45 7 = g50 45 7).trans (by rw [e50]; exact x_up2_at _ _ _ _ : g50 45 7 = 3))) (fun P Z R hL hZ hO h1 hU hg hv hT => (by
                                                            have hf := q2 P Z hL hZ hO
                                                            have ho := hO.1
                                                            have fr := t_F_X hC2
                                                            have hU1 : t_UK gi2 ar2 R := hU.eq (fun K a _ => (t_nd_fr hC2 rfl K (Or.inr (by have := hv.2; omega))).1)
                                                            have ha : w3.toInt = s_ac (s_FA P (gi 45 5).toInt Z) R := q3 _ R hf hO.1 hU1 hg
                                                            obtain ⟨z0, z1, -, -, -⟩ := hZ.1
                                                            have g6 : (gi2 45 6).toInt = (gi 45 6).toInt := congrArg Int32.toInt (fr 45 6 (by decide) rfl).1
                                                            have g5 : (gi2 45 5).toInt = (gi 45 5).toInt := congrArg Int32.toInt (fr 45 5 (by decide) rfl).1
                                                            have hY : s_ob P (fun F => s_ac F R) (gi 45 5).toInt Z = s_skz P (gi 45 5).toInt (P 0 0).toNat 0 (s_z (s_z (s_z Z 1 3) 2 ((gi 45 5).toInt + P 8 (gi 45 5).toInt.toNat)) 7 (Z 7 + 1)) := s_ob_y h1 (by rw [← ha]; omega)
                                                            have h0 := hI0.b (hI0.wf.s (k := 45) rfl) (t_bdK rfl : t_bd 2 5 = some (0, 301))
                                                            have h8 := hT.1 (gi 45 5).toInt.toNat
                                                            obtain ⟨⟨b3, b4⟩, b5, b6⟩ := hT.2
                                                            have fa : ∀ j, g50 ar1 j = gi ar1 j := fun j => by rw [e50, x_up2_ne (by have := hv.1; omega), (t_nd_fr hC2 rfl ar1 (by have := hv.1; omega)).1]
                                                            have p3 : (g50 ar1 3).toInt = (gi ar1 3).toInt := congrArg Int32.toInt (fa 3)
                                                            have p4 : (g50 ar1 4).toInt = (gi ar1 4).toInt := congrArg Int32.toInt (fa 4)
                                                            have p5 : (g50 ar1 5).toInt = (gi ar1 5).toInt := congrArg Int32.toInt (fa 5)
                                                            have e8v := s_add e54 rfl p3 (by omega)
                                                            have hz0 := hZ.eq (g1 := gi2) (fun j _ _ => congrFun (t_F_nc fr rfl (by decide)) j) (t_F_nc fr rfl (by decide))
                                                            have hz1 := hz0.tn (g1 := g57) (a := (gi 45 5).toInt + P 8 (gi 45 5).toInt.toNat) (w := Z 7 + 1) (by rw [e57, x_up2_off (Or.inr (by decide)), e55, x_up2_off (Or.inr (by decide)), e50, x_up2_at]; rfl) (by rw [e57, x_up2_off (Or.inr (by decide)), e55, x_up2_at, h8, e8v]; split <;> omega) (fun j a b c d => by by_cases h13 : j = 13; omega; rw [e57, x_up2_off (Or.inr (by omega)), e55, x_up2_off (Or.inr (by omega)), e50, x_up2_off (Or.inr (by omega))]) (funext fun j => by rw [e57, x_up2_off (Or.inl (by decide)), e55, x_up2_off (Or.inl (by decide)), e50, x_up2_off (Or.inl (by decide))])
                                                            refine ⟨_, hz1, ?_, by show s_z _ 7 _ 1 = 3; rw [s_z_ne (by decide), s_z_ne (by decide), s_z_at], by have z0 : (0 : Int32).toInt = 0 := rfl; have := hL.1.2; omega⟩
                                                            rw [hY]; rfl)) rfl
      · have r68 : (g50 ar1 5).toInt ≤ (gi 45 5).toInt := Int32.le_iff_toInt_le.mp (t_nlt h51)
        have u69 : (g50 ar1 5).toInt ≤ 301 := t_leu (t_nlt h51) u1
        refine ev_loc f_X5_turnLength (nx := 9) rfl rfl rfl rfl ?_
        refine ev_loc f_X5_turnLength (nx := 10) rfl rfl rfl rfl ?_
        refine ev_getI f_X5_turnLength (nx := 13) rfl p_a1.1 rfl rfl rfl ?_
        refine ev_anyIE f_X5_turnLength (nx := 14) rfl rfl rfl rfl (fun z70 e70 => ?_)
        refine ev_jmp f_X5_turnLength (nx := 18) rfl rfl rfl ?_
        refine ev_retK1 f_X5_turnLength rfl rfl rfl ?_
        refine ev_anyIE f_X2_obey (nx := 73) rfl rfl rfl rfl (fun z71 e71 => ?_)
        refine ev_putIT f_X2_obey (nx := 76) rfl (hI.wf.s rfl) rfl rfl rfl (hI.put0 (hI.wf.s rfl) rfl rfl) (hX.upI rfl) (fun g72 e72 hI hX => ?_)
        refine ev_loc f_X2_obey (nx := 77) rfl rfl rfl rfl ?_
        refine ev_alu f_X2_obey (nx := 78) rfl rfl rfl rfl ?_
        refine ev_getI f_X2_obey (nx := 81) rfl (hI.wf.s rfl) rfl rfl rfl ?_
        refine ev_ic f_X2_obey (nx := 82) (v := 1) rfl (by decide) rfl ?_
        refine ev_anyIE f_X2_obey (nx := 83) rfl rfl rfl rfl (fun z73 e73 => ?_)
        refine ev_putIT f_X2_obey (nx := 86) rfl (hI.wf.s rfl) rfl rfl rfl (hI.put0 (hI.wf.s rfl) rfl rfl) (hX.upI rfl) (fun g74 e74 hI hX => ?_)
        refine ev_ic f_X2_obey (nx := 87) (v := 0) rfl (by decide) rfl ?_
        refine ev_loc f_X2_obey (nx := 89) (lo' := [(5, .int 0), (4, .int 1), (3, .int w3), (0, .ref 45), (1, .ref ar1), (2, .ref ar2)]) rfl rfl rfl rfl ?_
        have L75 : ∀ (m75 : Nat) (gi75 : Nat → Nat → Int32) (gl75 : Nat → Nat → Int64) (gr75 : Nat → Nat → Value) (y75_5 : Int32), t_I sh gi75 gr75 → t_X wl_k_obey sh gi gl gr gi75 gl75 gr75 → t_Rv sh gr75 ar1 → t_Ru sh gr75 ar2 → 0 ≤ y75_5.toInt → y75_5.toInt ≤ 6 → gi75 45 5 = (gi 45 5) → gi75 45 6 = (gi2 45 6) → gi75 45 7 = 3 → (∀ (P : Nat → Nat → Int) (Z : Nat → Int) (R : List (List Int × Int)), t_KL P gi → t_CZ (P 0 0) Z gi → s_okz P Z → Z 1 = 0 → t_UK gi ar2 R → s_gd R → ((ar1 = 3 ∨ 102 ≤ ar1) ∧ 102 ≤ ar2) → ((∀ m : Nat, P 8 m = (gi ar1 3).toInt + (if (m : Int) < (gi ar1 5).toInt then 0 else (gi ar1 4).toInt)) ∧ (0 ≤ (gi ar1 3).toInt ∧ (gi ar1 3).toInt ≤ 20) ∧ 0 ≤ (gi ar1 4).toInt ∧ (gi ar1 4).toInt ≤ 20) → ∃ Y, t_CZ (P 0 0) Y gi75 ∧ s_skz P (gi 45 5).toInt ((P 0 0).toNat - y75_5.toNatClampNeg) y75_5.toNatClampNeg Y = s_ob P (fun F => s_ac F R) (gi 45 5).toInt Z ∧ Y 1 = 3 ∧ y75_5.toInt ≤ P 0 0) → (6 - y75_5.toInt).toNat = m75 → x_Ev X (d + 4) n_X2_obey 89 [(5, .int y75_5), (4, .int 1), (3, .int w3), (0, .ref 45), (1, .ref ar1), (2, .ref ar2)] [] (sh, gi75, gl75, gr75) (t_PN wl_k_obey sh gi gl gr (Q_k_obey gi gl gr ar1 ar2)) := by
          intro m75
          induction m75 using Nat.strongRecOn with
          | _ m75 ih75 =>
          intro gi75 gl75 gr75 y75_5 hI hX p_a1 p_a2 l75_5 u75_5 c75_0 c75_1 c75_2 j75_0 hm75
          refine ev_loc f_X2_obey (nx := 91) rfl rfl rfl rfl ?_
          refine ev_loc f_X2_obey (nx := 92) rfl rfl rfl rfl ?_
          refine ev_getR f_X2_obey (nx := 95) rfl (hI.wf.s rfl) rfl rfl (hI.wf.r rfl) rfl rfl ?_
          refine ev_getI f_X2_obey (nx := 98) rfl (hI.wf.s rfl) rfl rfl rfl ?_
          obtain ⟨l76, u76⟩ := hI.b (hI.wf.s (k := 46) rfl) (t_bdK rfl : t_bd 3 0 = some (0, 6))
          refine ev_if f_X2_obey (t1 := 113) (t2 := 101) rfl rfl rfl (fun h77 => ?_) (fun h77 => ?_)
          · have r78 : (gi75 46 0).toInt ≤ y75_5.toInt := Int32.le_iff_toInt_le.mp h77
            exact ev_ret f_X2_obey rfl rfl rfl ⟨_, _, _, rfl, hI, hX, ⟨rfl, (show (∀ (P : Nat → Nat → Int) (Z : Nat → Int) (R : List (List Int × Int)), t_KL P gi → t_CZ (P 0 0) Z gi → s_okz P Z → Z 1 = 0 → t_UK gi ar2 R → s_gd R → ((ar1 = 3 ∨ 102 ≤ ar1) ∧ 102 ≤ ar2) → ((∀ m : Nat, P 8 m = (gi ar1 3).toInt + (if (m : Int) < (gi ar1 5).toInt then 0 else (gi ar1 4).toInt)) ∧ (0 ≤ (gi ar1 3).toInt ∧ (gi ar1 3).toInt ≤ 20) ∧ 0 ≤ (gi ar1 4).toInt ∧ (gi ar1 4).toInt ≤ 20) → t_CZ (P 0 0) (s_ob P (fun F => s_ac F R) (gi 45 5).toInt Z) gi75) from (fun P Z R hL hZ hO h1 hU hg hv hT => (by
                                                            obtain ⟨Y, h1_, h2, h3, h4⟩ := j75_0 P Z R hL hZ hO h1 hU hg hv hT
                                                            have hXX := hX
                                                            have hL1 := hL.fr (congrFun (t_F_nc (t_F_X hXX) rfl (by decide)) 0) (congrFun (t_F_nc (t_F_X hXX) rfl (by decide)) 0) (t_F_nc (t_F_X hXX) rfl (by decide)) (t_F_nc (t_F_X hXX) rfl (by decide)) (t_F_nc (t_F_X hXX) rfl (by decide)) (t_F_nc (t_F_X hXX) rfl (by decide)) (t_F_nc (t_F_X hXX) rfl (by decide)) (t_F_nc (t_F_X hXX) rfl (by decide)) (t_F_nc (t_F_X hXX) rfl (by decide))
                                                            have hm := hL1.1.1.1
                                                            have c0 := t_clamp (i := y75_5) (by omega)
                                                            rw [show (P 0 0).toNat - y75_5.toNatClampNeg = 0 by omega] at h2
                                                            rw [← h2]
                                                            exact h1_)))⟩⟩
          · have r79 : y75_5.toInt < (gi75 46 0).toInt := Int32.lt_iff_toInt_lt.mp (t_nle h77)
            have u80 : y75_5.toInt ≤ 5 := t_ltu (t_nle h77) u76 rfl
            have l81 : 1 ≤ (gi75 46 0).toInt := t_ltl (t_nle h77) l75_5 rfl
            have hXo75 := hX
            refine ev_loc f_X2_obey (nx := 102) rfl rfl rfl rfl ?_
            refine ev_loc f_X2_obey (nx := 104) rfl rfl rfl rfl ?_
            refine ev_qN f_X2_obey (nx := 107) (r := []) rfl rfl rfl rfl rfl rfl rfl (c_k_strikeIfDue hI (y75_5)) rfl hX rfl (fun gi82 gl82 gr82 hI hX hC82 q82 => ?_)
            have ff83 : (gi75 45 5).toInt = (gi 45 5).toInt := congrArg Int32.toInt c75_0
            have q82 : (∀ (P : Nat → Nat → Int) (Z : Nat → Int), t_KL P gi75 → t_CZ (P 0 0) Z gi75 → 0 ≤ y75_5.toInt → y75_5.toInt < P 0 0 → t_CZ (P 0 0) (s_k2 P (gi75 45 5).toInt Z y75_5.toNatClampNeg) gi82) := q82
            replace p_a1 := p_a1.ext hC82.2
            replace p_a2 := p_a2.ext hC82.2
            refine ev_incR f_X2_obey (nx := 110) (c := 1) (l := 1) (u := 6) rfl rfl (by decide) (by decide) l75_5 u80 rfl rfl (by decide) (by decide) rfl (fun z84 e84 l84 u84 => ?_)
            refine ev_jmp f_X2_obey (nx := 89) rfl rfl rfl ?_
            refine ev_sub (lo := [(5, .int z84), (4, .int 1), (3, .int w3), (0, .ref 45), (1, .ref ar1), (2, .ref ar2)]) rfl (t_sc rfl (t_sc rfl (t_sc rfl (t_sc rfl (t_sc rfl (t_sc rfl t_sn)))))) ?_
            exact ih75 _ (by omega) gi82 gl82 gr82 (z84) hI hX p_a1 p_a2 (Int.le_trans (by decide : (0:Int) ≤ 1) l84) u84 ((hC82.1 45 5 rfl).1.trans c75_0) ((hC82.1 45 6 rfl).1.trans c75_1) ((hC82.1 45 7 rfl).1.trans c75_2) (fun P Z R hL hZ hO h1 hU hg hv hT => (by
                                                            obtain ⟨Y, h1_, h2, h3, h4⟩ := j75_0 P Z R hL hZ hO h1 hU hg hv hT
                                                            have hXX := hXo75
                                                            have hL1 := hL.fr (congrFun (t_F_nc (t_F_X hXX) rfl (by decide)) 0) (congrFun (t_F_nc (t_F_X hXX) rfl (by decide)) 0) (t_F_nc (t_F_X hXX) rfl (by decide)) (t_F_nc (t_F_X hXX) rfl (by decide)) (t_F_nc (t_F_X hXX) rfl (by decide)) (t_F_nc (t_F_X hXX) rfl (by decide)) (t_F_nc (t_F_X hXX) rfl (by decide)) (t_F_nc (t_F_X hXX) rfl (by decide)) (t_F_nc (t_F_X hXX) rfl (by decide))
                                                            have hm := hL1.1.1.1
                                                            have c0 := t_clamp (i := y75_5) (by omega)
                                                            have m5 : (gi75 45 5).toInt = (gi 45 5).toInt := congrArg Int32.toInt (t_F_X hXX 45 5 (by decide) rfl).1
                                                            have hx : z84.toNatClampNeg = y75_5.toNatClampNeg + 1 := by have := t_clamp (i := z84) (by omega); omega
                                                            rw [show (P 0 0).toNat - y75_5.toNatClampNeg = ((P 0 0).toNat - z84.toNatClampNeg) + 1 by omega, s_skz_s, s_k1_2 (by omega)] at h2
                                                            have hq := q82 P Y hL1 h1_ (by omega) (by omega)
                                                            rw [m5] at hq
                                                            rw [hx] at h2
                                                            exact ⟨_, hq, by rw [hx]; exact h2, by rw [s_k2_o (by decide) (by omega)]; exact h3, by omega⟩)) rfl
        refine ev_sub (lo := [(5, .int 0), (4, .int 1), (3, .int w3), (0, .ref 45), (1, .ref ar1), (2, .ref ar2)]) rfl (t_sc rfl (t_sc rfl (t_sc rfl (t_sc rfl (t_sc rfl (t_sc rfl t_sn)))))) ?_
        exact L75 _ g74 gl2 gr2 (0) hI hX p_a1 p_a2 (by decide : (0:Int) ≤ (0:Int32).toInt) (Int.le_trans (by decide : (0:Int32).toInt ≤ (0:Int)) (by decide : (0:Int) ≤ 6)) ((by rw [e74]; exact x_up2_off (Or.inr (by decide)) : g74 45 5 = g72 45 5).trans ((by rw [e72]; exact x_up2_off (Or.inr (by decide)) : g72 45 5 = g50 45 5).trans ((by rw [e50]; exact x_up2_off (Or.inr (by decide)) : g50 45 5 = gi2 45 5).trans ((hC2.1 45 5 rfl).1.trans rfl)))) ((by rw [e74]; exact x_up2_off (Or.inr (by decide)) : g74 45 6 = g72 45 6).trans ((by rw [e72]; exact x_up2_off (Or.inr (by decide)) : g72 45 6 = g50 45 6).trans ((by rw [e50]; exact x_up2_off (Or.inr (by decide)) : g50 45 6 = gi2 45 6).trans rfl))) ((by rw [e74]; exact x_up2_off (Or.inr (by decide)) : g74 45 7 = g72 45 7).trans ((by rw [e72]; exact x_up2_off (Or.inr (by decide)) : g72 45 7 = g50 45 7).trans (by rw [e50]; exact x_up2_at _ _ _ _ : g50 45 7 = 3))) (fun P Z R hL hZ hO h1 hU hg hv hT => (by
                                                            have hf := q2 P Z hL hZ hO
                                                            have ho := hO.1
                                                            have fr := t_F_X hC2
                                                            have hU1 : t_UK gi2 ar2 R := hU.eq (fun K a _ => (t_nd_fr hC2 rfl K (Or.inr (by have := hv.2; omega))).1)
                                                            have ha : w3.toInt = s_ac (s_FA P (gi 45 5).toInt Z) R := q3 _ R hf hO.1 hU1 hg
                                                            obtain ⟨z0, z1, -, -, -⟩ := hZ.1
                                                            have g6 : (gi2 45 6).toInt = (gi 45 6).toInt := congrArg Int32.toInt (fr 45 6 (by decide) rfl).1
                                                            have g5 : (gi2 45 5).toInt = (gi 45 5).toInt := congrArg Int32.toInt (fr 45 5 (by decide) rfl).1
                                                            have hY : s_ob P (fun F => s_ac F R) (gi 45 5).toInt Z = s_skz P (gi 45 5).toInt (P 0 0).toNat 0 (s_z (s_z (s_z Z 1 3) 2 ((gi 45 5).toInt + P 8 (gi 45 5).toInt.toNat)) 7 (Z 7 + 1)) := s_ob_y h1 (by rw [← ha]; omega)
                                                            have h0 := hI0.b (hI0.wf.s (k := 45) rfl) (t_bdK rfl : t_bd 2 5 = some (0, 301))
                                                            have h8 := hT.1 (gi 45 5).toInt.toNat
                                                            obtain ⟨⟨b3, b4⟩, b5, b6⟩ := hT.2
                                                            have fa : ∀ j, g50 ar1 j = gi ar1 j := fun j => by rw [e50, x_up2_ne (by have := hv.1; omega), (t_nd_fr hC2 rfl ar1 (by have := hv.1; omega)).1]
                                                            have p3 : (g50 ar1 3).toInt = (gi ar1 3).toInt := congrArg Int32.toInt (fa 3)
                                                            have p4 : (g50 ar1 4).toInt = (gi ar1 4).toInt := congrArg Int32.toInt (fa 4)
                                                            have p5 : (g50 ar1 5).toInt = (gi ar1 5).toInt := congrArg Int32.toInt (fa 5)
                                                            have el := s_add e70 p3 p4 (by omega)
                                                            have e8v := s_add e71 rfl el (by omega)
                                                            have hz0 := hZ.eq (g1 := gi2) (fun j _ _ => congrFun (t_F_nc fr rfl (by decide)) j) (t_F_nc fr rfl (by decide))
                                                            have hz1 := hz0.tn (g1 := g74) (a := (gi 45 5).toInt + P 8 (gi 45 5).toInt.toNat) (w := Z 7 + 1) (by rw [e74, x_up2_off (Or.inr (by decide)), e72, x_up2_off (Or.inr (by decide)), e50, x_up2_at]; rfl) (by rw [e74, x_up2_off (Or.inr (by decide)), e72, x_up2_at, h8, e8v]; split <;> omega) (fun j a b c d => by by_cases h13 : j = 13; omega; rw [e74, x_up2_off (Or.inr (by omega)), e72, x_up2_off (Or.inr (by omega)), e50, x_up2_off (Or.inr (by omega))]) (funext fun j => by rw [e74, x_up2_off (Or.inl (by decide)), e72, x_up2_off (Or.inl (by decide)), e50, x_up2_off (Or.inl (by decide))])
                                                            refine ⟨_, hz1, ?_, by show s_z _ 7 _ 1 = 3; rw [s_z_ne (by decide), s_z_ne (by decide), s_z_at], by have z0 : (0 : Int32).toInt = 0 := rfl; have := hL.1.2; omega⟩
                                                            rw [hY]; rfl)) rfl
    · have r85 : w3.toInt ≠ 1 := fun e => h47 (Int32.toInt_inj.mp (e.trans (by decide : (1:Int) = (1 : Int32).toInt)))
      refine ev_ic f_X2_obey (nx := 30) (v := 0) rfl (by decide) rfl ?_
      refine ev_jmp f_X2_obey (nx := 42) rfl rfl rfl ?_
      refine ev_loc f_X2_obey (nx := 44) (lo' := [(4, .int 0), (3, .int w3), (0, .ref 45), (1, .ref ar1), (2, .ref ar2)]) rfl rfl rfl rfl ?_
      refine ev_loc f_X2_obey (nx := 46) rfl rfl rfl rfl ?_
      refine ev_t f_X2_obey (t1 := 49) (t2 := 50) rfl rfl rfl (by decide) ?_
      exact ev_ret f_X2_obey rfl rfl rfl ⟨_, _, _, rfl, hI, hX, ⟨rfl, (show (∀ (P : Nat → Nat → Int) (Z : Nat → Int) (R : List (List Int × Int)), t_KL P gi → t_CZ (P 0 0) Z gi → s_okz P Z → Z 1 = 0 → t_UK gi ar2 R → s_gd R → ((ar1 = 3 ∨ 102 ≤ ar1) ∧ 102 ≤ ar2) → ((∀ m : Nat, P 8 m = (gi ar1 3).toInt + (if (m : Int) < (gi ar1 5).toInt then 0 else (gi ar1 4).toInt)) ∧ (0 ≤ (gi ar1 3).toInt ∧ (gi ar1 3).toInt ≤ 20) ∧ 0 ≤ (gi ar1 4).toInt ∧ (gi ar1 4).toInt ≤ 20) → t_CZ (P 0 0) (s_ob P (fun F => s_ac F R) (gi 45 5).toInt Z) gi2) from (fun P Z R hL hZ hO h1 hU hg hv hT => (by
                                                            have hf := q2 P Z hL hZ hO
                                                            have ho := hO.1
                                                            have fr := t_F_X hC2
                                                            have hU1 : t_UK gi2 ar2 R := hU.eq (fun K a _ => (t_nd_fr hC2 rfl K (Or.inr (by have := hv.2; omega))).1)
                                                            have ha : w3.toInt = s_ac (s_FA P (gi 45 5).toInt Z) R := q3 _ R hf hO.1 hU1 hg
                                                            obtain ⟨z0, z1, -, -, -⟩ := hZ.1
                                                            have g6 : (gi2 45 6).toInt = (gi 45 6).toInt := congrArg Int32.toInt (fr 45 6 (by decide) rfl).1
                                                            have g5 : (gi2 45 5).toInt = (gi 45 5).toInt := congrArg Int32.toInt (fr 45 5 (by decide) rfl).1
                                                            rw [s_ob_n (A := (fun F => s_ac F R)) (by show ¬ ((_ ∧ s_ac _ R = 1) ∨ (_ ∧ s_ac _ R = 0)); rw [← ha]; omega)]
                                                            exact hZ.eq (fun j _ _ => congrFun (t_F_nc fr rfl (by decide)) j) (t_F_nc fr rfl (by decide)))))⟩⟩
