/-! ===== printed by riv.py: a day ===== -/
noncomputable def wl_k_spendDay : List (Nat × Nat) := [(45, 4), (45, 5), (45, 6), (45, 7), (45, 8), (45, 9), (45, 10), (45, 11), (45, 12), (45, 13), (45, 14), (46, 0), (47, 9999), (48, 9999), (49, 9999), (50, 9999), (51, 9999), (52, 0), (53, 9999), (54, 9999), (55, 9999), (56, 9999), (57, 9999), (58, 9999), (59, 9999)]
noncomputable def Q_k_spendDay (gi : Nat → Nat → Int32) (gl : Nat → Nat → Int64) (gr : Nat → Nat → Value) (ar1 : Nat) (ar2 : Nat) (ar3 : Int32) : (Nat → Nat → Int32) → (Nat → Nat → Int64) → (Nat → Nat → Value) → Prop := fun (gi2 : Nat → Nat → Int32) (gl2 : Nat → Nat → Int64) (gr2 : Nat → Nat → Value) => (∀ (D : s_D) (R : List (List Int × Int)), t_VL gr ar1 → t_CV gi gl ar1 D → (ar1 = 3 ∨ 102 ≤ ar1) → t_Cb D → (∀ s : Nat, (s : Int) < D 1 → 0 ≤ D (56 + 5 * s) ∧ D (56 + 5 * s) ≤ 1) → s_DB D → D 4 ≤ 20 → D 5 ≤ 20 → (-1 ≤ ar3.toInt ∧ ar3.toInt ≤ 9999) → t_UK gi ar2 R → s_gd R → 102 ≤ ar2 → ∃ Z, t_KL (s_PY D ar3.toInt) gi2 ∧ t_CZ ((s_PY D ar3.toInt) 0 0) Z gi2 ∧ Z 5 = (s_dy (s_PY D ar3.toInt) (fun F => s_ac F R) 301 0 (fun _ => (0 : Int))) 5 ∧ Z 6 = (s_dy (s_PY D ar3.toInt) (fun F => s_ac F R) 301 0 (fun _ => (0 : Int))) 6 ∧ s_lf (s_PY D ar3.toInt) Z = s_lf (s_PY D ar3.toInt) (s_dy (s_PY D ar3.toInt) (fun F => s_ac F R) 301 0 (fun _ => (0 : Int))))
theorem c_k_spendDay {X : x_Ext} {d : Nat} {sh : List (Nat ⊕ (Nat × Nat))} {gi : Nat → Nat → Int32} {gl : Nat → Nat → Int64} {gr : Nat → Nat → Value} (hI : t_I sh gi gr) (ar1 : Nat) (p_a1 : t_Rv sh gr ar1) (ar2 : Nat) (p_a2 : t_Ru sh gr ar2) (ar3 : Int32) : x_Me X (d + 5) n_X2_spendDay [.ref 45, .ref ar1, .ref ar2, .int ar3] (sh, gi, gl, gr) (t_PN wl_k_spendDay sh gi gl gr (Q_k_spendDay gi gl gr ar1 ar2 ar3)) := by
  have hX : t_X wl_k_spendDay sh gi gl gr gi gl gr := t_X.rf
  refine me_i f_X2_spendDay (hI.wf.s rfl) rfl rfl rfl ?_
  obtain ⟨l1, u1⟩ := hI.b (hI.wf.s (k := 45) rfl) (t_bdK rfl : t_bd 2 5 = some (0, 301))
  refine ev_loc f_X2_spendDay (nx := 1) rfl rfl rfl rfl ?_
  refine ev_loc f_X2_spendDay (nx := 2) rfl rfl rfl rfl ?_
  refine ev_loc f_X2_spendDay (nx := 3) rfl rfl rfl rfl ?_
  refine ev_qN f_X2_spendDay (nx := 6) (r := []) rfl rfl rfl rfl rfl rfl rfl (c_k_comeLater hI (ar1) p_a1 (ar3)) rfl hX rfl (fun gi2 gl2 gr2 hI hX hC2 q2 => ?_)
  have q2 : (∀ D : s_D, t_VL gr ar1 → t_CV gi gl ar1 D → (ar1 = 3 ∨ 102 ≤ ar1) → t_Cb D → (∀ s : Nat, (s : Int) < D 1 → 0 ≤ D (56 + 5 * s) ∧ D (56 + 5 * s) ≤ 1) → s_DB D → (-1 ≤ ar3.toInt ∧ ar3.toInt ≤ 9999) → t_KL (s_PY D ar3.toInt) gi2 ∧ (∀ k : Nat, (k : Int) < D 1 → (gi2 58 k).toInt = 0)) := q2
  replace p_a1 := p_a1.ext hC2.2
  replace p_a2 := p_a2.ext hC2.2
  refine ev_loc f_X2_spendDay (nx := 7) rfl rfl rfl rfl ?_
  refine ev_ic f_X2_spendDay (nx := 8) (v := 0) rfl (by decide) rfl ?_
  refine ev_putZT f_X2_spendDay (nx := 11) rfl (hI.wf.s rfl) rfl rfl (by decide : (0:Int) ≤ (0:Int32).toInt) (Int.le_trans (by decide : (0:Int32).toInt ≤ (0:Int)) (by decide : (0:Int) ≤ 1)) rfl (hI.put0 (hI.wf.s rfl) rfl rfl) (hX.upI rfl) (fun g3 e3 hI hX => ?_)
  refine ev_loc f_X2_spendDay (nx := 12) rfl rfl rfl rfl ?_
  refine ev_ic f_X2_spendDay (nx := 13) (v := 0) rfl (by decide) rfl ?_
  refine ev_putIT f_X2_spendDay (nx := 16) rfl (hI.wf.s rfl) rfl rfl rfl (hI.put0 (hI.wf.s rfl) rfl rfl) (hX.upI rfl) (fun g4 e4 hI hX => ?_)
  refine ev_loc f_X2_spendDay (nx := 17) rfl rfl rfl rfl ?_
  refine ev_ic f_X2_spendDay (nx := 18) (v := 0) rfl (by decide) rfl ?_
  refine ev_putIT f_X2_spendDay (nx := 21) rfl (hI.wf.s rfl) rfl rfl rfl (hI.put0 (hI.wf.s rfl) rfl rfl) (hX.upI rfl) (fun g5 e5 hI hX => ?_)
  refine ev_loc f_X2_spendDay (nx := 22) rfl rfl rfl rfl ?_
  refine ev_ic f_X2_spendDay (nx := 23) (v := 0) rfl (by decide) rfl ?_
  refine ev_putIT f_X2_spendDay (nx := 26) rfl (hI.wf.s rfl) rfl rfl rfl (hI.put0 (hI.wf.s rfl) rfl rfl) (hX.upI rfl) (fun g6 e6 hI hX => ?_)
  refine ev_loc f_X2_spendDay (nx := 27) rfl rfl rfl rfl ?_
  refine ev_ic f_X2_spendDay (nx := 28) (v := 0) rfl (by decide) rfl ?_
  refine ev_putIT f_X2_spendDay (nx := 31) rfl (hI.wf.s rfl) rfl rfl rfl (hI.putB (hI.wf.s rfl) rfl rfl (by decide : (0:Int) ≤ (0:Int32).toInt) (by decide) (by decide : (0:Int32).toInt ≤ (0:Int)) (by decide)) (hX.upI rfl) (fun g7 e7 hI hX => ?_)
  refine ev_loc f_X2_spendDay (nx := 32) rfl rfl rfl rfl ?_
  refine ev_ic f_X2_spendDay (nx := 33) (v := 0) rfl (by decide) rfl ?_
  refine ev_putIT f_X2_spendDay (nx := 36) rfl (hI.wf.s rfl) rfl rfl rfl (hI.put0 (hI.wf.s rfl) rfl rfl) (hX.upI rfl) (fun g8 e8 hI hX => ?_)
  refine ev_loc f_X2_spendDay (nx := 37) rfl rfl rfl rfl ?_
  refine ev_ic f_X2_spendDay (nx := 38) (v := 0) rfl (by decide) rfl ?_
  refine ev_putIT f_X2_spendDay (nx := 41) rfl (hI.wf.s rfl) rfl rfl rfl (hI.put0 (hI.wf.s rfl) rfl rfl) (hX.upI rfl) (fun g9 e9 hI hX => ?_)
  refine ev_loc f_X2_spendDay (nx := 42) rfl rfl rfl rfl ?_
  refine ev_ic f_X2_spendDay (nx := 43) (v := 0) rfl (by decide) rfl ?_
  refine ev_putIT f_X2_spendDay (nx := 46) rfl (hI.wf.s rfl) rfl rfl rfl (hI.put0 (hI.wf.s rfl) rfl rfl) (hX.upI rfl) (fun g10 e10 hI hX => ?_)
  refine ev_loc f_X2_spendDay (nx := 47) rfl rfl rfl rfl ?_
  refine ev_ic f_X2_spendDay (nx := 48) (v := 0) rfl (by decide) rfl ?_
  refine ev_putIT f_X2_spendDay (nx := 51) rfl (hI.wf.s rfl) rfl rfl rfl (hI.put0 (hI.wf.s rfl) rfl rfl) (hX.upI rfl) (fun g11 e11 hI hX => ?_)
  refine ev_loc f_X2_spendDay (nx := 52) rfl rfl rfl rfl ?_
  refine ev_ic f_X2_spendDay (nx := 53) (v := 0) rfl (by decide) rfl ?_
  refine ev_putIT f_X2_spendDay (nx := 56) rfl (hI.wf.s rfl) rfl rfl rfl (hI.putB (hI.wf.s rfl) rfl rfl (by decide : (0:Int) ≤ (0:Int32).toInt) (by decide) (by decide : (0:Int32).toInt ≤ (0:Int)) (by decide)) (hX.upI rfl) (fun g12 e12 hI hX => ?_)
  have L13 : ∀ (m13 : Nat) (gi13 : Nat → Nat → Int32) (gl13 : Nat → Nat → Int64) (gr13 : Nat → Nat → Value), t_I sh gi13 gr13 → t_X wl_k_spendDay sh gi gl gr gi13 gl13 gr13 → t_Rv sh gr13 ar1 → t_Ru sh gr13 ar2 → (∀ (D : s_D) (R : List (List Int × Int)), t_VL gr ar1 → t_CV gi gl ar1 D → (ar1 = 3 ∨ 102 ≤ ar1) → t_Cb D → (∀ s : Nat, (s : Int) < D 1 → 0 ≤ D (56 + 5 * s) ∧ D (56 + 5 * s) ≤ 1) → s_DB D → D 4 ≤ 20 → D 5 ≤ 20 → (-1 ≤ ar3.toInt ∧ ar3.toInt ≤ 9999) → t_UK gi ar2 R → s_gd R → 102 ≤ ar2 → ∃ Z, t_KL (s_PY D ar3.toInt) gi13 ∧ t_CZ ((s_PY D ar3.toInt) 0 0) Z gi13 ∧ s_okz (s_PY D ar3.toInt) Z ∧ s_dy (s_PY D ar3.toInt) (fun F => s_ac F R) (301 - (gi13 45 5).toInt).toNat (gi13 45 5).toInt Z = (s_dy (s_PY D ar3.toInt) (fun F => s_ac F R) 301 0 (fun _ => (0 : Int)))) → (301 - (gi13 45 5).toInt).toNat = m13 → x_Ev X (d + 5) n_X2_spendDay 56 [(0, .ref 45), (1, .ref ar1), (2, .ref ar2), (3, .int ar3)] [] (sh, gi13, gl13, gr13) (t_PN wl_k_spendDay sh gi gl gr (Q_k_spendDay gi gl gr ar1 ar2 ar3)) := by
    intro m13
    induction m13 using Nat.strongRecOn with
    | _ m13 ih13 =>
    intro gi13 gl13 gr13 hI hX p_a1 p_a2 j13_0 hm13
    obtain ⟨l14, u14⟩ := hI.b (hI.wf.s (k := 45) rfl) (t_bdK rfl : t_bd 2 5 = some (0, 301))
    refine ev_loc f_X2_spendDay (nx := 57) rfl rfl rfl rfl ?_
    refine ev_gvI f_X2_spendDay (nx := 60) (w := (gi13 45 5)) rfl (hI.wf.s rfl) rfl rfl rfl rfl ?_
    refine ev_sp f_X2_spendDay (nx := 63) (v := 301) rfl (by decide) rfl ?_
    refine ev_if f_X2_spendDay (t1 := 135) (t2 := 66) rfl rfl rfl (fun h15 => ?_) (fun h15 => ?_)
    · have l16 : 301 ≤ (gi13 45 5).toInt := t_lel h15 (by decide : (301:Int) ≤ (301:Int32).toInt)
      refine ev_loc f_X2_spendDay (nx := 136) rfl rfl rfl rfl ?_
      refine ev_qN f_X2_spendDay (nx := 139) (r := []) rfl rfl rfl rfl rfl rfl rfl (c_k_endWhatIsOver hI ) rfl hX rfl (fun gi17 gl17 gr17 hI hX hC17 q17 => ?_)
      have q17 : (∀ (P : Nat → Nat → Int) (Z : Nat → Int), t_KL P gi13 → t_CZ (P 0 0) Z gi13 → s_okz P Z → t_CZ (P 0 0) (s_en (gi13 45 5).toInt Z) gi17) := q17
      replace p_a1 := p_a1.ext hC17.2
      replace p_a2 := p_a2.ext hC17.2
      exact ev_ret f_X2_spendDay rfl rfl rfl ⟨_, _, _, rfl, hI, hX, ⟨rfl, (show (∀ (D : s_D) (R : List (List Int × Int)), t_VL gr ar1 → t_CV gi gl ar1 D → (ar1 = 3 ∨ 102 ≤ ar1) → t_Cb D → (∀ s : Nat, (s : Int) < D 1 → 0 ≤ D (56 + 5 * s) ∧ D (56 + 5 * s) ≤ 1) → s_DB D → D 4 ≤ 20 → D 5 ≤ 20 → (-1 ≤ ar3.toInt ∧ ar3.toInt ≤ 9999) → t_UK gi ar2 R → s_gd R → 102 ≤ ar2 → ∃ Z, t_KL (s_PY D ar3.toInt) gi17 ∧ t_CZ ((s_PY D ar3.toInt) 0 0) Z gi17 ∧ Z 5 = (s_dy (s_PY D ar3.toInt) (fun F => s_ac F R) 301 0 (fun _ => (0 : Int))) 5 ∧ Z 6 = (s_dy (s_PY D ar3.toInt) (fun F => s_ac F R) 301 0 (fun _ => (0 : Int))) 6 ∧ s_lf (s_PY D ar3.toInt) Z = s_lf (s_PY D ar3.toInt) (s_dy (s_PY D ar3.toInt) (fun F => s_ac F R) 301 0 (fun _ => (0 : Int)))) from (fun D R hl hc hv hb hsl hd h4 h5 hsd hU hg h2 => (by
                                                            obtain ⟨Z, hL, hZ, hO, hY⟩ := j13_0 D R hl hc hv hb hsl hd h4 h5 hsd hU hg h2
                                                            have f1 := t_F_X hC17
                                                            have hz1 := q17 (s_PY D ar3.toInt) Z hL hZ hO
                                                            have hL1 := hL.fr (congrFun (t_F_nc f1 rfl (by decide)) 0) (congrFun (t_F_nc f1 rfl (by decide)) 0) (t_F_nc f1 rfl (by decide)) (t_F_nc f1 rfl (by decide)) (t_F_nc f1 rfl (by decide)) (t_F_nc f1 rfl (by decide)) (t_F_nc f1 rfl (by decide)) (t_F_nc f1 rfl (by decide)) (t_F_nc f1 rfl (by decide))
                                                            rw [show (301 - (gi13 45 5).toInt).toNat = 0 by omega] at hY
                                                            rw [← hY]
                                                            exact ⟨_, hL1, hz1, (s_en_o (by decide) (by decide) (by decide)).trans (s_z_ne (by decide)).symm, (s_en_o (by decide) (by decide) (by decide)).trans (s_z_ne (by decide)).symm, s_lf_cg ((s_en_o (by decide) (by decide) (by decide)).trans (s_z_ne (by decide)).symm) (fun k => (s_en_o (by omega) (by omega) (by omega)).trans (s_z_ne (by omega)).symm)⟩)))⟩⟩
    · have u18 : (gi13 45 5).toInt ≤ 300 := t_ltu (t_nle h15) (by decide : (301:Int32).toInt ≤ (301:Int)) rfl
      have hIw13 := hI
      refine ev_loc f_X2_spendDay (nx := 67) rfl rfl rfl rfl ?_
      refine ev_qN f_X2_spendDay (nx := 70) (r := []) rfl rfl rfl rfl rfl rfl rfl (c_k_endWhatIsOver hI ) rfl hX rfl (fun gi19 gl19 gr19 hI hX hC19 q19 => ?_)
      have q19 : (∀ (P : Nat → Nat → Int) (Z : Nat → Int), t_KL P gi13 → t_CZ (P 0 0) Z gi13 → s_okz P Z → t_CZ (P 0 0) (s_en (gi13 45 5).toInt Z) gi19) := q19
      replace p_a1 := p_a1.ext hC19.2
      replace p_a2 := p_a2.ext hC19.2
      refine ev_loc f_X2_spendDay (nx := 71) rfl rfl rfl rfl ?_
      refine ev_qI0 f_X2_spendDay (nx := 74) (r := []) rfl rfl rfl rfl rfl rfl rfl (c_k_left hI ) rfl (fun w20 l20 u20 q20 => ?_)
      have q20 : (∀ (P : Nat → Nat → Int) (Z : Nat → Int), t_KL P gi19 → t_CZ (P 0 0) Z gi19 → w20.toInt = s_lf P Z) := q20
      refine ev_if f_X2_spendDay (t1 := 77) (t2 := 94) rfl rfl rfl (fun h21 => ?_) (fun h21 => ?_)
      · have u22 : w20.toInt ≤ 0 := t_equ h21 (by decide : (0:Int32).toInt ≤ (0:Int))
        have l23 : 0 ≤ w20.toInt := t_eql h21 (by decide : (0:Int) ≤ (0:Int32).toInt)
        refine ev_loc f_X2_spendDay (nx := 78) rfl rfl rfl rfl ?_
        refine ev_getI f_X2_spendDay (nx := 81) rfl (hI.wf.s rfl) rfl rfl rfl ?_
        refine ev_ic f_X2_spendDay (nx := 82) (v := 1) rfl (by decide) rfl ?_
        refine ev_if f_X2_spendDay (t1 := 94) (t2 := 85) rfl rfl rfl (fun h24 => ?_) (fun h24 => ?_)
        · have u25 : (gi19 45 7).toInt ≤ 1 := t_equ h24 (by decide : (1:Int32).toInt ≤ (1:Int))
          have l26 : 1 ≤ (gi19 45 7).toInt := t_eql h24 (by decide : (1:Int) ≤ (1:Int32).toInt)
          refine ev_loc f_X2_spendDay (nx := 95) rfl rfl rfl rfl ?_
          refine ev_qN f_X2_spendDay (nx := 98) (r := []) rfl rfl rfl rfl rfl rfl rfl (c_k_strikeSails hI ) rfl hX rfl (fun gi27 gl27 gr27 hI hX hC27 q27 => ?_)
          have ff28 : (gi19 45 5).toInt = (gi13 45 5).toInt := congrArg Int32.toInt ((hC19.1 45 5 rfl).1.trans rfl)
          have q27 : (∀ (P : Nat → Nat → Int) (Z : Nat → Int), t_KL P gi19 → t_CZ (P 0 0) Z gi19 → s_okz P Z → t_CZ (P 0 0) (s_skz P (gi19 45 5).toInt (P 0 0).toNat 0 Z) gi27) := q27
          replace p_a1 := p_a1.ext hC27.2
          replace p_a2 := p_a2.ext hC27.2
          refine ev_loc f_X2_spendDay (nx := 99) rfl rfl rfl rfl ?_
          refine ev_gvI f_X2_spendDay (nx := 102) (w := (gi19 45 7)) rfl (hI.wf.s rfl) rfl rfl ((hC27.1 45 7 rfl).1.trans rfl) rfl ?_
          refine ev_f f_X2_spendDay (t1 := 105) (t2 := 111) rfl rfl rfl (t_neT' (by decide : (0:Int32).toInt ≤ (0:Int)) l26 (by decide)) ?_
          refine ev_loc f_X2_spendDay (nx := 112) rfl rfl rfl rfl ?_
          refine ev_gvI f_X2_spendDay (nx := 115) (w := (gi19 45 7)) rfl (hI.wf.s rfl) rfl rfl ((hC27.1 45 7 rfl).1.trans rfl) rfl ?_
          refine ev_f f_X2_spendDay (t1 := 118) (t2 := 122) rfl rfl rfl (t_neT' (by decide : (0:Int32).toInt ≤ (0:Int)) l26 (by decide)) ?_
          refine ev_loc f_X2_spendDay (nx := 123) rfl rfl rfl rfl ?_
          refine ev_alu f_X2_spendDay (nx := 124) rfl rfl rfl rfl ?_
          refine ev_gvI f_X2_spendDay (nx := 127) (w := (gi13 45 5)) rfl (hI.wf.s rfl) rfl rfl ((hC27.1 45 5 rfl).1.trans ((hC19.1 45 5 rfl).1.trans rfl)) rfl ?_
          refine ev_ic f_X2_spendDay (nx := 128) (v := 1) rfl (by decide) rfl ?_
          refine ev_addC f_X2_spendDay (nx := 129) (c := 1) (l := 1) (u := 301) rfl (by decide) l14 u18 rfl rfl (by decide) (by decide) rfl (fun z29 e29 l29 u29 => ?_)
          refine ev_putIT f_X2_spendDay (nx := 132) rfl (hI.wf.s rfl) rfl rfl rfl (hI.putB (hI.wf.s rfl) rfl rfl l29 (by decide) u29 (by decide)) (hX.upI rfl) (fun g30 e30 hI hX => ?_)
          refine ev_jmp f_X2_spendDay (nx := 56) rfl rfl rfl ?_
          refine ev_sub (lo := [(0, .ref 45), (1, .ref ar1), (2, .ref ar2), (3, .int ar3)]) rfl (t_sc rfl (t_sc rfl (t_sc rfl (t_sc rfl t_sn)))) ?_
          have hq13 := ((by rw [e30]; exact x_up2_at _ _ _ _ : g30 45 5 = z29) : g30 45 5 = z29)
          exact ih13 _ (by rw [hq13]; omega) g30 gl27 gr27  hI hX p_a1 p_a2 (fun D R hl hc hv hb hsl hd h4 h5 hsd hU hg h2 => (by
                                                            obtain ⟨Z, hL, hZ, hO, hY⟩ := j13_0 D R hl hc hv hb hsl hd h4 h5 hsd hU hg h2
                                                            have hB := s_PY_B (sd := ar3.toInt) hb hd
                                                            have hP := s_PY_O (sd := ar3.toInt) hb hd
                                                            have f1 := t_F_X hC19
                                                            have hz1 := q19 (s_PY D ar3.toInt) Z hL hZ hO
                                                            have hL1 := hL.fr (congrFun (t_F_nc f1 rfl (by decide)) 0) (congrFun (t_F_nc f1 rfl (by decide)) 0) (t_F_nc f1 rfl (by decide)) (t_F_nc f1 rfl (by decide)) (t_F_nc f1 rfl (by decide)) (t_F_nc f1 rfl (by decide)) (t_F_nc f1 rfl (by decide)) (t_F_nc f1 rfl (by decide)) (t_F_nc f1 rfl (by decide))
                                                            have h5m := hIw13.b (hIw13.wf.s (k := 45) rfl) (t_bdK rfl : t_bd 2 5 = some (0, 301))
                                                            have hO1 := s_en_ok (m := (gi13 45 5).toInt) hO (by omega)
                                                            have e5 : (gi19 45 5).toInt = (gi13 45 5).toInt := congrArg Int32.toInt (f1 45 5 (by decide) rfl).1
                                                            have hlf := q20 (s_PY D ar3.toInt) _ hL1 hz1
                                                            have hp0 := hB.1.1
                                                            have hl0 := s_lf_0 hO1 hp0
                                                            have u7 := hz1.1.2.1
                                                            have hnd : ¬ s_done (s_PY D ar3.toInt) (s_en (gi13 45 5).toInt Z) := fun hh => by have p1 := hl0.mpr hh.1; have p2 := hh.2.1; have p3 := hh.2.2; omega
                                                            have f2 := t_F_X hC27
                                                            have hz2 := q27 (s_PY D ar3.toInt) _ hL1 hz1 hO1
                                                            rw [e5] at hz2
                                                            have hL2 := hL1.fr (congrFun (t_F_nc f2 rfl (by decide)) 0) (congrFun (t_F_nc f2 rfl (by decide)) 0) (t_F_nc f2 rfl (by decide)) (t_F_nc f2 rfl (by decide)) (t_F_nc f2 rfl (by decide)) (t_F_nc f2 rfl (by decide)) (t_F_nc f2 rfl (by decide)) (t_F_nc f2 rfl (by decide)) (t_F_nc f2 rfl (by decide))
                                                            have hO2 := s_skz_ok (m := (gi13 45 5).toInt) (n := ((s_PY D ar3.toInt) 0 0).toNat) (k := 0) hO1
                                                            have e5b : (gi27 45 5).toInt = (gi13 45 5).toInt := (congrArg Int32.toInt (f2 45 5 (by decide) rfl).1).trans e5
                                                            have u7b := hz2.1.2.1
                                                            have v7b : (gi27 45 7).toInt = (gi19 45 7).toInt := congrArg Int32.toInt (f2 45 7 (by decide) rfl).1
                                                            have emn : s_mn (s_PY D ar3.toInt) (fun F => s_ac F R) (gi13 45 5).toInt Z = _ := (s_mn_n (A := (fun F => s_ac F R)) (by omega))
                                                            rw [← emn] at hz2
                                                            have en : (g30 45 5).toInt = (gi13 45 5).toInt + 1 := by rw [e30, x_up2_at]; omega
                                                            refine ⟨_, hL2.fr (congrFun (funext fun j => by rw [e30, x_up2_off (Or.inl (by decide))]) 0) (congrFun (funext fun j => by rw [e30, x_up2_off (Or.inl (by decide))]) 0) (funext fun j => by rw [e30, x_up2_off (Or.inl (by decide))]) (funext fun j => by rw [e30, x_up2_off (Or.inl (by decide))]) (funext fun j => by rw [e30, x_up2_off (Or.inl (by decide))]) (funext fun j => by rw [e30, x_up2_off (Or.inl (by decide))]) (funext fun j => by rw [e30, x_up2_off (Or.inl (by decide))]) (funext fun j => by rw [e30, x_up2_off (Or.inl (by decide))]) (funext fun j => by rw [e30, x_up2_off (Or.inl (by decide))]), hz2.eq (fun j a b => by rw [e30, x_up2_off (Or.inr (by omega))]) (funext fun j => by rw [e30, x_up2_off (Or.inl (by decide))]), s_mn_ok hO (by omega) hP, ?_⟩
                                                            rw [en, ← hY, show (301 - (gi13 45 5).toInt).toNat = (301 - ((gi13 45 5).toInt + 1)).toNat + 1 by omega, s_dy_s hnd])) rfl
        · have r31 : (gi19 45 7).toInt ≠ 1 := fun e => h24 (Int32.toInt_inj.mp (e.trans (by decide : (1:Int) = (1 : Int32).toInt)))
          refine ev_loc f_X2_spendDay (nx := 86) rfl rfl rfl rfl ?_
          refine ev_gvI f_X2_spendDay (nx := 89) (w := (gi19 45 7)) rfl (hI.wf.s rfl) rfl rfl rfl rfl ?_
          refine ev_ic f_X2_spendDay (nx := 90) (v := 2) rfl (by decide) rfl ?_
          refine ev_if f_X2_spendDay (t1 := 94) (t2 := 93) rfl rfl rfl (fun h32 => ?_) (fun h32 => ?_)
          · have u33 : (gi19 45 7).toInt ≤ 2 := t_equ h32 (by decide : (2:Int32).toInt ≤ (2:Int))
            have l34 : 2 ≤ (gi19 45 7).toInt := t_eql h32 (by decide : (2:Int) ≤ (2:Int32).toInt)
            refine ev_loc f_X2_spendDay (nx := 95) rfl rfl rfl rfl ?_
            refine ev_qN f_X2_spendDay (nx := 98) (r := []) rfl rfl rfl rfl rfl rfl rfl (c_k_strikeSails hI ) rfl hX rfl (fun gi35 gl35 gr35 hI hX hC35 q35 => ?_)
            have ff36 : (gi19 45 5).toInt = (gi13 45 5).toInt := congrArg Int32.toInt ((hC19.1 45 5 rfl).1.trans rfl)
            have q35 : (∀ (P : Nat → Nat → Int) (Z : Nat → Int), t_KL P gi19 → t_CZ (P 0 0) Z gi19 → s_okz P Z → t_CZ (P 0 0) (s_skz P (gi19 45 5).toInt (P 0 0).toNat 0 Z) gi35) := q35
            replace p_a1 := p_a1.ext hC35.2
            replace p_a2 := p_a2.ext hC35.2
            refine ev_loc f_X2_spendDay (nx := 99) rfl rfl rfl rfl ?_
            refine ev_gvI f_X2_spendDay (nx := 102) (w := (gi19 45 7)) rfl (hI.wf.s rfl) rfl rfl ((hC35.1 45 7 rfl).1.trans rfl) rfl ?_
            refine ev_f f_X2_spendDay (t1 := 105) (t2 := 111) rfl rfl rfl (t_neT' (by decide : (0:Int32).toInt ≤ (0:Int)) l34 (by decide)) ?_
            refine ev_loc f_X2_spendDay (nx := 112) rfl rfl rfl rfl ?_
            refine ev_gvI f_X2_spendDay (nx := 115) (w := (gi19 45 7)) rfl (hI.wf.s rfl) rfl rfl ((hC35.1 45 7 rfl).1.trans rfl) rfl ?_
            refine ev_f f_X2_spendDay (t1 := 118) (t2 := 122) rfl rfl rfl (t_neT' (by decide : (0:Int32).toInt ≤ (0:Int)) l34 (by decide)) ?_
            refine ev_loc f_X2_spendDay (nx := 123) rfl rfl rfl rfl ?_
            refine ev_alu f_X2_spendDay (nx := 124) rfl rfl rfl rfl ?_
            refine ev_gvI f_X2_spendDay (nx := 127) (w := (gi13 45 5)) rfl (hI.wf.s rfl) rfl rfl ((hC35.1 45 5 rfl).1.trans ((hC19.1 45 5 rfl).1.trans rfl)) rfl ?_
            refine ev_ic f_X2_spendDay (nx := 128) (v := 1) rfl (by decide) rfl ?_
            refine ev_addC f_X2_spendDay (nx := 129) (c := 1) (l := 1) (u := 301) rfl (by decide) l14 u18 rfl rfl (by decide) (by decide) rfl (fun z37 e37 l37 u37 => ?_)
            refine ev_putIT f_X2_spendDay (nx := 132) rfl (hI.wf.s rfl) rfl rfl rfl (hI.putB (hI.wf.s rfl) rfl rfl l37 (by decide) u37 (by decide)) (hX.upI rfl) (fun g38 e38 hI hX => ?_)
            refine ev_jmp f_X2_spendDay (nx := 56) rfl rfl rfl ?_
            refine ev_sub (lo := [(0, .ref 45), (1, .ref ar1), (2, .ref ar2), (3, .int ar3)]) rfl (t_sc rfl (t_sc rfl (t_sc rfl (t_sc rfl t_sn)))) ?_
            have hq13 := ((by rw [e38]; exact x_up2_at _ _ _ _ : g38 45 5 = z37) : g38 45 5 = z37)
            exact ih13 _ (by rw [hq13]; omega) g38 gl35 gr35  hI hX p_a1 p_a2 (fun D R hl hc hv hb hsl hd h4 h5 hsd hU hg h2 => (by
                                                            obtain ⟨Z, hL, hZ, hO, hY⟩ := j13_0 D R hl hc hv hb hsl hd h4 h5 hsd hU hg h2
                                                            have hB := s_PY_B (sd := ar3.toInt) hb hd
                                                            have hP := s_PY_O (sd := ar3.toInt) hb hd
                                                            have f1 := t_F_X hC19
                                                            have hz1 := q19 (s_PY D ar3.toInt) Z hL hZ hO
                                                            have hL1 := hL.fr (congrFun (t_F_nc f1 rfl (by decide)) 0) (congrFun (t_F_nc f1 rfl (by decide)) 0) (t_F_nc f1 rfl (by decide)) (t_F_nc f1 rfl (by decide)) (t_F_nc f1 rfl (by decide)) (t_F_nc f1 rfl (by decide)) (t_F_nc f1 rfl (by decide)) (t_F_nc f1 rfl (by decide)) (t_F_nc f1 rfl (by decide))
                                                            have h5m := hIw13.b (hIw13.wf.s (k := 45) rfl) (t_bdK rfl : t_bd 2 5 = some (0, 301))
                                                            have hO1 := s_en_ok (m := (gi13 45 5).toInt) hO (by omega)
                                                            have e5 : (gi19 45 5).toInt = (gi13 45 5).toInt := congrArg Int32.toInt (f1 45 5 (by decide) rfl).1
                                                            have hlf := q20 (s_PY D ar3.toInt) _ hL1 hz1
                                                            have hp0 := hB.1.1
                                                            have hl0 := s_lf_0 hO1 hp0
                                                            have u7 := hz1.1.2.1
                                                            have hnd : ¬ s_done (s_PY D ar3.toInt) (s_en (gi13 45 5).toInt Z) := fun hh => by have p1 := hl0.mpr hh.1; have p2 := hh.2.1; have p3 := hh.2.2; omega
                                                            have f2 := t_F_X hC35
                                                            have hz2 := q35 (s_PY D ar3.toInt) _ hL1 hz1 hO1
                                                            rw [e5] at hz2
                                                            have hL2 := hL1.fr (congrFun (t_F_nc f2 rfl (by decide)) 0) (congrFun (t_F_nc f2 rfl (by decide)) 0) (t_F_nc f2 rfl (by decide)) (t_F_nc f2 rfl (by decide)) (t_F_nc f2 rfl (by decide)) (t_F_nc f2 rfl (by decide)) (t_F_nc f2 rfl (by decide)) (t_F_nc f2 rfl (by decide)) (t_F_nc f2 rfl (by decide))
                                                            have hO2 := s_skz_ok (m := (gi13 45 5).toInt) (n := ((s_PY D ar3.toInt) 0 0).toNat) (k := 0) hO1
                                                            have e5b : (gi35 45 5).toInt = (gi13 45 5).toInt := (congrArg Int32.toInt (f2 45 5 (by decide) rfl).1).trans e5
                                                            have u7b := hz2.1.2.1
                                                            have v7b : (gi35 45 7).toInt = (gi19 45 7).toInt := congrArg Int32.toInt (f2 45 7 (by decide) rfl).1
                                                            have emn : s_mn (s_PY D ar3.toInt) (fun F => s_ac F R) (gi13 45 5).toInt Z = _ := (s_mn_n (A := (fun F => s_ac F R)) (by omega))
                                                            rw [← emn] at hz2
                                                            have en : (g38 45 5).toInt = (gi13 45 5).toInt + 1 := by rw [e38, x_up2_at]; omega
                                                            refine ⟨_, hL2.fr (congrFun (funext fun j => by rw [e38, x_up2_off (Or.inl (by decide))]) 0) (congrFun (funext fun j => by rw [e38, x_up2_off (Or.inl (by decide))]) 0) (funext fun j => by rw [e38, x_up2_off (Or.inl (by decide))]) (funext fun j => by rw [e38, x_up2_off (Or.inl (by decide))]) (funext fun j => by rw [e38, x_up2_off (Or.inl (by decide))]) (funext fun j => by rw [e38, x_up2_off (Or.inl (by decide))]) (funext fun j => by rw [e38, x_up2_off (Or.inl (by decide))]) (funext fun j => by rw [e38, x_up2_off (Or.inl (by decide))]) (funext fun j => by rw [e38, x_up2_off (Or.inl (by decide))]), hz2.eq (fun j a b => by rw [e38, x_up2_off (Or.inr (by omega))]) (funext fun j => by rw [e38, x_up2_off (Or.inl (by decide))]), s_mn_ok hO (by omega) hP, ?_⟩
                                                            rw [en, ← hY, show (301 - (gi13 45 5).toInt).toNat = (301 - ((gi13 45 5).toInt + 1)).toNat + 1 by omega, s_dy_s hnd])) rfl
          · have r39 : (gi19 45 7).toInt ≠ 2 := fun e => h32 (Int32.toInt_inj.mp (e.trans (by decide : (2:Int) = (2 : Int32).toInt)))
            exact ev_ret f_X2_spendDay rfl rfl rfl ⟨_, _, _, rfl, hI, hX, ⟨rfl, (show (∀ (D : s_D) (R : List (List Int × Int)), t_VL gr ar1 → t_CV gi gl ar1 D → (ar1 = 3 ∨ 102 ≤ ar1) → t_Cb D → (∀ s : Nat, (s : Int) < D 1 → 0 ≤ D (56 + 5 * s) ∧ D (56 + 5 * s) ≤ 1) → s_DB D → D 4 ≤ 20 → D 5 ≤ 20 → (-1 ≤ ar3.toInt ∧ ar3.toInt ≤ 9999) → t_UK gi ar2 R → s_gd R → 102 ≤ ar2 → ∃ Z, t_KL (s_PY D ar3.toInt) gi19 ∧ t_CZ ((s_PY D ar3.toInt) 0 0) Z gi19 ∧ Z 5 = (s_dy (s_PY D ar3.toInt) (fun F => s_ac F R) 301 0 (fun _ => (0 : Int))) 5 ∧ Z 6 = (s_dy (s_PY D ar3.toInt) (fun F => s_ac F R) 301 0 (fun _ => (0 : Int))) 6 ∧ s_lf (s_PY D ar3.toInt) Z = s_lf (s_PY D ar3.toInt) (s_dy (s_PY D ar3.toInt) (fun F => s_ac F R) 301 0 (fun _ => (0 : Int)))) from (fun D R hl hc hv hb hsl hd h4 h5 hsd hU hg h2 => (by
                                                            obtain ⟨Z, hL, hZ, hO, hY⟩ := j13_0 D R hl hc hv hb hsl hd h4 h5 hsd hU hg h2
                                                            have hB := s_PY_B (sd := ar3.toInt) hb hd
                                                            have hP := s_PY_O (sd := ar3.toInt) hb hd
                                                            have f1 := t_F_X hC19
                                                            have hz1 := q19 (s_PY D ar3.toInt) Z hL hZ hO
                                                            have hL1 := hL.fr (congrFun (t_F_nc f1 rfl (by decide)) 0) (congrFun (t_F_nc f1 rfl (by decide)) 0) (t_F_nc f1 rfl (by decide)) (t_F_nc f1 rfl (by decide)) (t_F_nc f1 rfl (by decide)) (t_F_nc f1 rfl (by decide)) (t_F_nc f1 rfl (by decide)) (t_F_nc f1 rfl (by decide)) (t_F_nc f1 rfl (by decide))
                                                            have h5m := hIw13.b (hIw13.wf.s (k := 45) rfl) (t_bdK rfl : t_bd 2 5 = some (0, 301))
                                                            have hO1 := s_en_ok (m := (gi13 45 5).toInt) hO (by omega)
                                                            have e5 : (gi19 45 5).toInt = (gi13 45 5).toInt := congrArg Int32.toInt (f1 45 5 (by decide) rfl).1
                                                            have hlf := q20 (s_PY D ar3.toInt) _ hL1 hz1
                                                            have hp0 := hB.1.1
                                                            have hl0 := s_lf_0 hO1 hp0
                                                            have u7 := hz1.1.2.1
                                                            have hdn : s_done (s_PY D ar3.toInt) (s_en (gi13 45 5).toInt Z) := ⟨hl0.mp (by omega), by omega, by omega⟩
                                                            rw [show (301 - (gi13 45 5).toInt).toNat = (301 - ((gi13 45 5).toInt + 1)).toNat + 1 by omega, s_dy_e hdn] at hY
                                                            rw [← hY]
                                                            exact ⟨_, hL1, hz1, (s_z_ne (by decide)).symm, (s_z_ne (by decide)).symm, s_lf_cg (s_z_ne (by decide)).symm (fun k => (s_z_ne (by omega)).symm)⟩)))⟩⟩
      · have r40 : w20.toInt ≠ 0 := fun e => h21 (Int32.toInt_inj.mp (e.trans (by decide : (0:Int) = (0 : Int32).toInt)))
        refine ev_loc f_X2_spendDay (nx := 95) rfl rfl rfl rfl ?_
        refine ev_qN f_X2_spendDay (nx := 98) (r := []) rfl rfl rfl rfl rfl rfl rfl (c_k_strikeSails hI ) rfl hX rfl (fun gi41 gl41 gr41 hI hX hC41 q41 => ?_)
        have ff42 : (gi19 45 5).toInt = (gi13 45 5).toInt := congrArg Int32.toInt ((hC19.1 45 5 rfl).1.trans rfl)
        have q41 : (∀ (P : Nat → Nat → Int) (Z : Nat → Int), t_KL P gi19 → t_CZ (P 0 0) Z gi19 → s_okz P Z → t_CZ (P 0 0) (s_skz P (gi19 45 5).toInt (P 0 0).toNat 0 Z) gi41) := q41
        replace p_a1 := p_a1.ext hC41.2
        replace p_a2 := p_a2.ext hC41.2
        refine ev_loc f_X2_spendDay (nx := 99) rfl rfl rfl rfl ?_
        refine ev_getI f_X2_spendDay (nx := 102) rfl (hI.wf.s rfl) rfl rfl rfl ?_
        refine ev_if f_X2_spendDay (t1 := 105) (t2 := 111) rfl rfl rfl (fun h43 => ?_) (fun h43 => ?_)
        · have u44 : (gi41 45 7).toInt ≤ 0 := t_equ h43 (by decide : (0:Int32).toInt ≤ (0:Int))
          have l45 : 0 ≤ (gi41 45 7).toInt := t_eql h43 (by decide : (0:Int) ≤ (0:Int32).toInt)
          have hXo := hX
          refine ev_loc f_X2_spendDay (nx := 106) rfl rfl rfl rfl ?_
          refine ev_loc f_X2_spendDay (nx := 107) rfl rfl rfl rfl ?_
          refine ev_loc f_X2_spendDay (nx := 108) rfl rfl rfl rfl ?_
          refine ev_qN f_X2_spendDay (nx := 111) (r := []) rfl rfl rfl rfl rfl rfl rfl (c_k_obey hI (ar1) p_a1 (ar2) p_a2) rfl hX rfl (fun gi46 gl46 gr46 hI hX hC46 q46 => ?_)
          have ff47 : (gi41 45 5).toInt = (gi13 45 5).toInt := congrArg Int32.toInt ((hC41.1 45 5 rfl).1.trans ((hC19.1 45 5 rfl).1.trans rfl))
          have q46 : (∀ (P : Nat → Nat → Int) (Z : Nat → Int) (R : List (List Int × Int)), t_KL P gi41 → t_CZ (P 0 0) Z gi41 → s_okz P Z → Z 1 = 0 → t_UK gi41 ar2 R → s_gd R → ((ar1 = 3 ∨ 102 ≤ ar1) ∧ 102 ≤ ar2) → ((∀ m : Nat, P 8 m = (gi41 ar1 3).toInt + (if (m : Int) < (gi41 ar1 5).toInt then 0 else (gi41 ar1 4).toInt)) ∧ (0 ≤ (gi41 ar1 3).toInt ∧ (gi41 ar1 3).toInt ≤ 20) ∧ 0 ≤ (gi41 ar1 4).toInt ∧ (gi41 ar1 4).toInt ≤ 20) → t_CZ (P 0 0) (s_ob P (fun F => s_ac F R) (gi41 45 5).toInt Z) gi46) := q46
          replace p_a1 := p_a1.ext hC46.2
          replace p_a2 := p_a2.ext hC46.2
          refine ev_loc f_X2_spendDay (nx := 112) rfl rfl rfl rfl ?_
          refine ev_getI f_X2_spendDay (nx := 115) rfl (hI.wf.s rfl) rfl rfl rfl ?_
          refine ev_if f_X2_spendDay (t1 := 118) (t2 := 122) rfl rfl rfl (fun h48 => ?_) (fun h48 => ?_)
          · have u49 : (gi46 45 7).toInt ≤ 0 := t_equ h48 (by decide : (0:Int32).toInt ≤ (0:Int))
            have l50 : 0 ≤ (gi46 45 7).toInt := t_eql h48 (by decide : (0:Int) ≤ (0:Int32).toInt)
            refine ev_loc f_X2_spendDay (nx := 119) rfl rfl rfl rfl ?_
            refine ev_qN f_X2_spendDay (nx := 122) (r := []) rfl rfl rfl rfl rfl rfl rfl (c_k_beginNext hI ) rfl hX rfl (fun gi51 gl51 gr51 hI hX hC51 q51 => ?_)
            have ff52 : (gi46 45 5).toInt = (gi13 45 5).toInt := congrArg Int32.toInt ((hC46.1 45 5 rfl).1.trans ((hC41.1 45 5 rfl).1.trans ((hC19.1 45 5 rfl).1.trans rfl)))
            have q51 : (∀ (P : Nat → Nat → Int) (Z : Nat → Int), t_KL P gi46 → t_CZ (P 0 0) Z gi46 → s_okz P Z → Z 1 = 0 → s_PB P → s_PO P → t_CZ (P 0 0) (s_bg P (gi46 45 5).toInt Z) gi51) := q51
            replace p_a1 := p_a1.ext hC51.2
            replace p_a2 := p_a2.ext hC51.2
            refine ev_loc f_X2_spendDay (nx := 123) rfl rfl rfl rfl ?_
            refine ev_alu f_X2_spendDay (nx := 124) rfl rfl rfl rfl ?_
            refine ev_gvI f_X2_spendDay (nx := 127) (w := (gi13 45 5)) rfl (hI.wf.s rfl) rfl rfl ((hC51.1 45 5 rfl).1.trans ((hC46.1 45 5 rfl).1.trans ((hC41.1 45 5 rfl).1.trans ((hC19.1 45 5 rfl).1.trans rfl)))) rfl ?_
            refine ev_ic f_X2_spendDay (nx := 128) (v := 1) rfl (by decide) rfl ?_
            refine ev_addC f_X2_spendDay (nx := 129) (c := 1) (l := 1) (u := 301) rfl (by decide) l14 u18 rfl rfl (by decide) (by decide) rfl (fun z53 e53 l53 u53 => ?_)
            refine ev_putIT f_X2_spendDay (nx := 132) rfl (hI.wf.s rfl) rfl rfl rfl (hI.putB (hI.wf.s rfl) rfl rfl l53 (by decide) u53 (by decide)) (hX.upI rfl) (fun g54 e54 hI hX => ?_)
            refine ev_jmp f_X2_spendDay (nx := 56) rfl rfl rfl ?_
            refine ev_sub (lo := [(0, .ref 45), (1, .ref ar1), (2, .ref ar2), (3, .int ar3)]) rfl (t_sc rfl (t_sc rfl (t_sc rfl (t_sc rfl t_sn)))) ?_
            have hq13 := ((by rw [e54]; exact x_up2_at _ _ _ _ : g54 45 5 = z53) : g54 45 5 = z53)
            exact ih13 _ (by rw [hq13]; omega) g54 gl51 gr51  hI hX p_a1 p_a2 (fun D R hl hc hv hb hsl hd h4 h5 hsd hU hg h2 => (by
                                                            obtain ⟨Z, hL, hZ, hO, hY⟩ := j13_0 D R hl hc hv hb hsl hd h4 h5 hsd hU hg h2
                                                            have hB := s_PY_B (sd := ar3.toInt) hb hd
                                                            have hP := s_PY_O (sd := ar3.toInt) hb hd
                                                            have f1 := t_F_X hC19
                                                            have hz1 := q19 (s_PY D ar3.toInt) Z hL hZ hO
                                                            have hL1 := hL.fr (congrFun (t_F_nc f1 rfl (by decide)) 0) (congrFun (t_F_nc f1 rfl (by decide)) 0) (t_F_nc f1 rfl (by decide)) (t_F_nc f1 rfl (by decide)) (t_F_nc f1 rfl (by decide)) (t_F_nc f1 rfl (by decide)) (t_F_nc f1 rfl (by decide)) (t_F_nc f1 rfl (by decide)) (t_F_nc f1 rfl (by decide))
                                                            have h5m := hIw13.b (hIw13.wf.s (k := 45) rfl) (t_bdK rfl : t_bd 2 5 = some (0, 301))
                                                            have hO1 := s_en_ok (m := (gi13 45 5).toInt) hO (by omega)
                                                            have e5 : (gi19 45 5).toInt = (gi13 45 5).toInt := congrArg Int32.toInt (f1 45 5 (by decide) rfl).1
                                                            have hlf := q20 (s_PY D ar3.toInt) _ hL1 hz1
                                                            have hp0 := hB.1.1
                                                            have hl0 := s_lf_0 hO1 hp0
                                                            have u7 := hz1.1.2.1
                                                            have hnd : ¬ s_done (s_PY D ar3.toInt) (s_en (gi13 45 5).toInt Z) := fun hh => by have p1 := hl0.mpr hh.1; have p2 := hh.2.1; have p3 := hh.2.2; omega
                                                            have f2 := t_F_X hC41
                                                            have hz2 := q41 (s_PY D ar3.toInt) _ hL1 hz1 hO1
                                                            rw [e5] at hz2
                                                            have hL2 := hL1.fr (congrFun (t_F_nc f2 rfl (by decide)) 0) (congrFun (t_F_nc f2 rfl (by decide)) 0) (t_F_nc f2 rfl (by decide)) (t_F_nc f2 rfl (by decide)) (t_F_nc f2 rfl (by decide)) (t_F_nc f2 rfl (by decide)) (t_F_nc f2 rfl (by decide)) (t_F_nc f2 rfl (by decide)) (t_F_nc f2 rfl (by decide))
                                                            have hO2 := s_skz_ok (m := (gi13 45 5).toInt) (n := ((s_PY D ar3.toInt) 0 0).toNat) (k := 0) hO1
                                                            have e5b : (gi41 45 5).toInt = (gi13 45 5).toInt := (congrArg Int32.toInt (f2 45 5 (by decide) rfl).1).trans e5
                                                            have u7b := hz2.1.2.1
                                                            have v7b : (gi41 45 7).toInt = (gi19 45 7).toInt := congrArg Int32.toInt (f2 45 7 (by decide) rfl).1
                                                            have f3 := t_F_X hC46
                                                            have hKo := t_nd_fr hXo rfl
                                                            have hUo := hU.eq (fun K a _ => (hKo K (Or.inr (by omega))).1)
                                                            have hvo := (hKo ar1 (by omega)).1
                                                            have hz3 := q46 (s_PY D ar3.toInt) _ R hL2 hz2 hO2 (by omega) hUo hg ⟨hv, h2⟩ ⟨fun k => by rw [hvo, hc.2.1.1, hc.2.1.2.1, hc.2.1.2.2.1]; rfl, by rw [hvo, hc.2.1.1, hc.2.1.2.1]; have := hd.2.2; omega⟩
                                                            rw [e5b] at hz3
                                                            have hL3 := hL2.fr (congrFun (t_F_nc f3 rfl (by decide)) 0) (congrFun (t_F_nc f3 rfl (by decide)) 0) (t_F_nc f3 rfl (by decide)) (t_F_nc f3 rfl (by decide)) (t_F_nc f3 rfl (by decide)) (t_F_nc f3 rfl (by decide)) (t_F_nc f3 rfl (by decide)) (t_F_nc f3 rfl (by decide)) (t_F_nc f3 rfl (by decide))
                                                            have hO3 := s_ob_ok (A := (fun F => s_ac F R)) (m := (gi13 45 5).toInt) hO2 (by omega) hP
                                                            have e5c : (gi46 45 5).toInt = (gi13 45 5).toInt := (congrArg Int32.toInt (f3 45 5 (by decide) rfl).1).trans e5b
                                                            have u7c := hz3.1.2.1
                                                            have f4 := t_F_X hC51
                                                            have hz4 := q51 (s_PY D ar3.toInt) _ hL3 hz3 hO3 (by omega) hB hP
                                                            rw [e5c] at hz4
                                                            have hL4 := hL3.fr (congrFun (t_F_nc f4 rfl (by decide)) 0) (congrFun (t_F_nc f4 rfl (by decide)) 0) (t_F_nc f4 rfl (by decide)) (t_F_nc f4 rfl (by decide)) (t_F_nc f4 rfl (by decide)) (t_F_nc f4 rfl (by decide)) (t_F_nc f4 rfl (by decide)) (t_F_nc f4 rfl (by decide)) (t_F_nc f4 rfl (by decide))
                                                            have e5d : (gi51 45 5).toInt = (gi13 45 5).toInt := (congrArg Int32.toInt (f4 45 5 (by decide) rfl).1).trans e5c
                                                            have emn : s_mn (s_PY D ar3.toInt) (fun F => s_ac F R) (gi13 45 5).toInt Z = _ := rfl
                                                            have hz4b : t_CZ ((s_PY D ar3.toInt) 0 0) (s_mn (s_PY D ar3.toInt) (fun F => s_ac F R) (gi13 45 5).toInt Z) gi51 := hz4
                                                            have en : (g54 45 5).toInt = (gi13 45 5).toInt + 1 := by rw [e54, x_up2_at]; omega
                                                            refine ⟨_, hL4.fr (congrFun (funext fun j => by rw [e54, x_up2_off (Or.inl (by decide))]) 0) (congrFun (funext fun j => by rw [e54, x_up2_off (Or.inl (by decide))]) 0) (funext fun j => by rw [e54, x_up2_off (Or.inl (by decide))]) (funext fun j => by rw [e54, x_up2_off (Or.inl (by decide))]) (funext fun j => by rw [e54, x_up2_off (Or.inl (by decide))]) (funext fun j => by rw [e54, x_up2_off (Or.inl (by decide))]) (funext fun j => by rw [e54, x_up2_off (Or.inl (by decide))]) (funext fun j => by rw [e54, x_up2_off (Or.inl (by decide))]) (funext fun j => by rw [e54, x_up2_off (Or.inl (by decide))]), hz4b.eq (fun j a b => by rw [e54, x_up2_off (Or.inr (by omega))]) (funext fun j => by rw [e54, x_up2_off (Or.inl (by decide))]), s_mn_ok hO (by omega) hP, ?_⟩
                                                            rw [en, ← hY, show (301 - (gi13 45 5).toInt).toNat = (301 - ((gi13 45 5).toInt + 1)).toNat + 1 by omega, s_dy_s hnd])) rfl
          · have r55 : (gi46 45 7).toInt ≠ 0 := fun e => h48 (Int32.toInt_inj.mp (e.trans (by decide : (0:Int) = (0 : Int32).toInt)))
            refine ev_loc f_X2_spendDay (nx := 123) rfl rfl rfl rfl ?_
            refine ev_alu f_X2_spendDay (nx := 124) rfl rfl rfl rfl ?_
            refine ev_gvI f_X2_spendDay (nx := 127) (w := (gi13 45 5)) rfl (hI.wf.s rfl) rfl rfl ((hC46.1 45 5 rfl).1.trans ((hC41.1 45 5 rfl).1.trans ((hC19.1 45 5 rfl).1.trans rfl))) rfl ?_
            refine ev_ic f_X2_spendDay (nx := 128) (v := 1) rfl (by decide) rfl ?_
            refine ev_addC f_X2_spendDay (nx := 129) (c := 1) (l := 1) (u := 301) rfl (by decide) l14 u18 rfl rfl (by decide) (by decide) rfl (fun z56 e56 l56 u56 => ?_)
            refine ev_putIT f_X2_spendDay (nx := 132) rfl (hI.wf.s rfl) rfl rfl rfl (hI.putB (hI.wf.s rfl) rfl rfl l56 (by decide) u56 (by decide)) (hX.upI rfl) (fun g57 e57 hI hX => ?_)
            refine ev_jmp f_X2_spendDay (nx := 56) rfl rfl rfl ?_
            refine ev_sub (lo := [(0, .ref 45), (1, .ref ar1), (2, .ref ar2), (3, .int ar3)]) rfl (t_sc rfl (t_sc rfl (t_sc rfl (t_sc rfl t_sn)))) ?_
            have hq13 := ((by rw [e57]; exact x_up2_at _ _ _ _ : g57 45 5 = z56) : g57 45 5 = z56)
            exact ih13 _ (by rw [hq13]; omega) g57 gl46 gr46  hI hX p_a1 p_a2 (fun D R hl hc hv hb hsl hd h4 h5 hsd hU hg h2 => (by
                                                            obtain ⟨Z, hL, hZ, hO, hY⟩ := j13_0 D R hl hc hv hb hsl hd h4 h5 hsd hU hg h2
                                                            have hB := s_PY_B (sd := ar3.toInt) hb hd
                                                            have hP := s_PY_O (sd := ar3.toInt) hb hd
                                                            have f1 := t_F_X hC19
                                                            have hz1 := q19 (s_PY D ar3.toInt) Z hL hZ hO
                                                            have hL1 := hL.fr (congrFun (t_F_nc f1 rfl (by decide)) 0) (congrFun (t_F_nc f1 rfl (by decide)) 0) (t_F_nc f1 rfl (by decide)) (t_F_nc f1 rfl (by decide)) (t_F_nc f1 rfl (by decide)) (t_F_nc f1 rfl (by decide)) (t_F_nc f1 rfl (by decide)) (t_F_nc f1 rfl (by decide)) (t_F_nc f1 rfl (by decide))
                                                            have h5m := hIw13.b (hIw13.wf.s (k := 45) rfl) (t_bdK rfl : t_bd 2 5 = some (0, 301))
                                                            have hO1 := s_en_ok (m := (gi13 45 5).toInt) hO (by omega)
                                                            have e5 : (gi19 45 5).toInt = (gi13 45 5).toInt := congrArg Int32.toInt (f1 45 5 (by decide) rfl).1
                                                            have hlf := q20 (s_PY D ar3.toInt) _ hL1 hz1
                                                            have hp0 := hB.1.1
                                                            have hl0 := s_lf_0 hO1 hp0
                                                            have u7 := hz1.1.2.1
                                                            have hnd : ¬ s_done (s_PY D ar3.toInt) (s_en (gi13 45 5).toInt Z) := fun hh => by have p1 := hl0.mpr hh.1; have p2 := hh.2.1; have p3 := hh.2.2; omega
                                                            have f2 := t_F_X hC41
                                                            have hz2 := q41 (s_PY D ar3.toInt) _ hL1 hz1 hO1
                                                            rw [e5] at hz2
                                                            have hL2 := hL1.fr (congrFun (t_F_nc f2 rfl (by decide)) 0) (congrFun (t_F_nc f2 rfl (by decide)) 0) (t_F_nc f2 rfl (by decide)) (t_F_nc f2 rfl (by decide)) (t_F_nc f2 rfl (by decide)) (t_F_nc f2 rfl (by decide)) (t_F_nc f2 rfl (by decide)) (t_F_nc f2 rfl (by decide)) (t_F_nc f2 rfl (by decide))
                                                            have hO2 := s_skz_ok (m := (gi13 45 5).toInt) (n := ((s_PY D ar3.toInt) 0 0).toNat) (k := 0) hO1
                                                            have e5b : (gi41 45 5).toInt = (gi13 45 5).toInt := (congrArg Int32.toInt (f2 45 5 (by decide) rfl).1).trans e5
                                                            have u7b := hz2.1.2.1
                                                            have v7b : (gi41 45 7).toInt = (gi19 45 7).toInt := congrArg Int32.toInt (f2 45 7 (by decide) rfl).1
                                                            have f3 := t_F_X hC46
                                                            have hKo := t_nd_fr hXo rfl
                                                            have hUo := hU.eq (fun K a _ => (hKo K (Or.inr (by omega))).1)
                                                            have hvo := (hKo ar1 (by omega)).1
                                                            have hz3 := q46 (s_PY D ar3.toInt) _ R hL2 hz2 hO2 (by omega) hUo hg ⟨hv, h2⟩ ⟨fun k => by rw [hvo, hc.2.1.1, hc.2.1.2.1, hc.2.1.2.2.1]; rfl, by rw [hvo, hc.2.1.1, hc.2.1.2.1]; have := hd.2.2; omega⟩
                                                            rw [e5b] at hz3
                                                            have hL3 := hL2.fr (congrFun (t_F_nc f3 rfl (by decide)) 0) (congrFun (t_F_nc f3 rfl (by decide)) 0) (t_F_nc f3 rfl (by decide)) (t_F_nc f3 rfl (by decide)) (t_F_nc f3 rfl (by decide)) (t_F_nc f3 rfl (by decide)) (t_F_nc f3 rfl (by decide)) (t_F_nc f3 rfl (by decide)) (t_F_nc f3 rfl (by decide))
                                                            have hO3 := s_ob_ok (A := (fun F => s_ac F R)) (m := (gi13 45 5).toInt) hO2 (by omega) hP
                                                            have e5c : (gi46 45 5).toInt = (gi13 45 5).toInt := (congrArg Int32.toInt (f3 45 5 (by decide) rfl).1).trans e5b
                                                            have u7c := hz3.1.2.1
                                                            have emn : s_mn (s_PY D ar3.toInt) (fun F => s_ac F R) (gi13 45 5).toInt Z = _ := (s_mn_t (A := (fun F => s_ac F R)) (by omega))
                                                            rw [← emn] at hz3
                                                            have en : (g57 45 5).toInt = (gi13 45 5).toInt + 1 := by rw [e57, x_up2_at]; omega
                                                            refine ⟨_, hL3.fr (congrFun (funext fun j => by rw [e57, x_up2_off (Or.inl (by decide))]) 0) (congrFun (funext fun j => by rw [e57, x_up2_off (Or.inl (by decide))]) 0) (funext fun j => by rw [e57, x_up2_off (Or.inl (by decide))]) (funext fun j => by rw [e57, x_up2_off (Or.inl (by decide))]) (funext fun j => by rw [e57, x_up2_off (Or.inl (by decide))]) (funext fun j => by rw [e57, x_up2_off (Or.inl (by decide))]) (funext fun j => by rw [e57, x_up2_off (Or.inl (by decide))]) (funext fun j => by rw [e57, x_up2_off (Or.inl (by decide))]) (funext fun j => by rw [e57, x_up2_off (Or.inl (by decide))]), hz3.eq (fun j a b => by rw [e57, x_up2_off (Or.inr (by omega))]) (funext fun j => by rw [e57, x_up2_off (Or.inl (by decide))]), s_mn_ok hO (by omega) hP, ?_⟩
                                                            rw [en, ← hY, show (301 - (gi13 45 5).toInt).toNat = (301 - ((gi13 45 5).toInt + 1)).toNat + 1 by omega, s_dy_s hnd])) rfl
        · have r58 : (gi41 45 7).toInt ≠ 0 := fun e => h43 (Int32.toInt_inj.mp (e.trans (by decide : (0:Int) = (0 : Int32).toInt)))
          refine ev_loc f_X2_spendDay (nx := 112) rfl rfl rfl rfl ?_
          refine ev_gvI f_X2_spendDay (nx := 115) (w := (gi41 45 7)) rfl (hI.wf.s rfl) rfl rfl rfl rfl ?_
          refine ev_if f_X2_spendDay (t1 := 118) (t2 := 122) rfl rfl rfl (fun h59 => ?_) (fun h59 => ?_)
          · have u60 : (gi41 45 7).toInt ≤ 0 := t_equ h59 (by decide : (0:Int32).toInt ≤ (0:Int))
            have l61 : 0 ≤ (gi41 45 7).toInt := t_eql h59 (by decide : (0:Int) ≤ (0:Int32).toInt)
            refine ev_loc f_X2_spendDay (nx := 119) rfl rfl rfl rfl ?_
            refine ev_qN f_X2_spendDay (nx := 122) (r := []) rfl rfl rfl rfl rfl rfl rfl (c_k_beginNext hI ) rfl hX rfl (fun gi62 gl62 gr62 hI hX hC62 q62 => ?_)
            have ff63 : (gi41 45 5).toInt = (gi13 45 5).toInt := congrArg Int32.toInt ((hC41.1 45 5 rfl).1.trans ((hC19.1 45 5 rfl).1.trans rfl))
            have q62 : (∀ (P : Nat → Nat → Int) (Z : Nat → Int), t_KL P gi41 → t_CZ (P 0 0) Z gi41 → s_okz P Z → Z 1 = 0 → s_PB P → s_PO P → t_CZ (P 0 0) (s_bg P (gi41 45 5).toInt Z) gi62) := q62
            replace p_a1 := p_a1.ext hC62.2
            replace p_a2 := p_a2.ext hC62.2
            refine ev_loc f_X2_spendDay (nx := 123) rfl rfl rfl rfl ?_
            refine ev_alu f_X2_spendDay (nx := 124) rfl rfl rfl rfl ?_
            refine ev_gvI f_X2_spendDay (nx := 127) (w := (gi13 45 5)) rfl (hI.wf.s rfl) rfl rfl ((hC62.1 45 5 rfl).1.trans ((hC41.1 45 5 rfl).1.trans ((hC19.1 45 5 rfl).1.trans rfl))) rfl ?_
            refine ev_ic f_X2_spendDay (nx := 128) (v := 1) rfl (by decide) rfl ?_
            refine ev_addC f_X2_spendDay (nx := 129) (c := 1) (l := 1) (u := 301) rfl (by decide) l14 u18 rfl rfl (by decide) (by decide) rfl (fun z64 e64 l64 u64 => ?_)
            refine ev_putIT f_X2_spendDay (nx := 132) rfl (hI.wf.s rfl) rfl rfl rfl (hI.putB (hI.wf.s rfl) rfl rfl l64 (by decide) u64 (by decide)) (hX.upI rfl) (fun g65 e65 hI hX => ?_)
            refine ev_jmp f_X2_spendDay (nx := 56) rfl rfl rfl ?_
            refine ev_sub (lo := [(0, .ref 45), (1, .ref ar1), (2, .ref ar2), (3, .int ar3)]) rfl (t_sc rfl (t_sc rfl (t_sc rfl (t_sc rfl t_sn)))) ?_
            have hq13 := ((by rw [e65]; exact x_up2_at _ _ _ _ : g65 45 5 = z64) : g65 45 5 = z64)
            exact ih13 _ (by rw [hq13]; omega) g65 gl62 gr62  hI hX p_a1 p_a2 (fun D R hl hc hv hb hsl hd h4 h5 hsd hU hg h2 => (by exfalso; omega)) rfl
          · have r66 : (gi41 45 7).toInt ≠ 0 := fun e => h59 (Int32.toInt_inj.mp (e.trans (by decide : (0:Int) = (0 : Int32).toInt)))
            refine ev_loc f_X2_spendDay (nx := 123) rfl rfl rfl rfl ?_
            refine ev_alu f_X2_spendDay (nx := 124) rfl rfl rfl rfl ?_
            refine ev_gvI f_X2_spendDay (nx := 127) (w := (gi13 45 5)) rfl (hI.wf.s rfl) rfl rfl ((hC41.1 45 5 rfl).1.trans ((hC19.1 45 5 rfl).1.trans rfl)) rfl ?_
            refine ev_ic f_X2_spendDay (nx := 128) (v := 1) rfl (by decide) rfl ?_
            refine ev_addC f_X2_spendDay (nx := 129) (c := 1) (l := 1) (u := 301) rfl (by decide) l14 u18 rfl rfl (by decide) (by decide) rfl (fun z67 e67 l67 u67 => ?_)
            refine ev_putIT f_X2_spendDay (nx := 132) rfl (hI.wf.s rfl) rfl rfl rfl (hI.putB (hI.wf.s rfl) rfl rfl l67 (by decide) u67 (by decide)) (hX.upI rfl) (fun g68 e68 hI hX => ?_)
            refine ev_jmp f_X2_spendDay (nx := 56) rfl rfl rfl ?_
            refine ev_sub (lo := [(0, .ref 45), (1, .ref ar1), (2, .ref ar2), (3, .int ar3)]) rfl (t_sc rfl (t_sc rfl (t_sc rfl (t_sc rfl t_sn)))) ?_
            have hq13 := ((by rw [e68]; exact x_up2_at _ _ _ _ : g68 45 5 = z67) : g68 45 5 = z67)
            exact ih13 _ (by rw [hq13]; omega) g68 gl41 gr41  hI hX p_a1 p_a2 (fun D R hl hc hv hb hsl hd h4 h5 hsd hU hg h2 => (by
                                                            obtain ⟨Z, hL, hZ, hO, hY⟩ := j13_0 D R hl hc hv hb hsl hd h4 h5 hsd hU hg h2
                                                            have hB := s_PY_B (sd := ar3.toInt) hb hd
                                                            have hP := s_PY_O (sd := ar3.toInt) hb hd
                                                            have f1 := t_F_X hC19
                                                            have hz1 := q19 (s_PY D ar3.toInt) Z hL hZ hO
                                                            have hL1 := hL.fr (congrFun (t_F_nc f1 rfl (by decide)) 0) (congrFun (t_F_nc f1 rfl (by decide)) 0) (t_F_nc f1 rfl (by decide)) (t_F_nc f1 rfl (by decide)) (t_F_nc f1 rfl (by decide)) (t_F_nc f1 rfl (by decide)) (t_F_nc f1 rfl (by decide)) (t_F_nc f1 rfl (by decide)) (t_F_nc f1 rfl (by decide))
                                                            have h5m := hIw13.b (hIw13.wf.s (k := 45) rfl) (t_bdK rfl : t_bd 2 5 = some (0, 301))
                                                            have hO1 := s_en_ok (m := (gi13 45 5).toInt) hO (by omega)
                                                            have e5 : (gi19 45 5).toInt = (gi13 45 5).toInt := congrArg Int32.toInt (f1 45 5 (by decide) rfl).1
                                                            have hlf := q20 (s_PY D ar3.toInt) _ hL1 hz1
                                                            have hp0 := hB.1.1
                                                            have hl0 := s_lf_0 hO1 hp0
                                                            have u7 := hz1.1.2.1
                                                            have hnd : ¬ s_done (s_PY D ar3.toInt) (s_en (gi13 45 5).toInt Z) := fun hh => by have p1 := hl0.mpr hh.1; have p2 := hh.2.1; have p3 := hh.2.2; omega
                                                            have f2 := t_F_X hC41
                                                            have hz2 := q41 (s_PY D ar3.toInt) _ hL1 hz1 hO1
                                                            rw [e5] at hz2
                                                            have hL2 := hL1.fr (congrFun (t_F_nc f2 rfl (by decide)) 0) (congrFun (t_F_nc f2 rfl (by decide)) 0) (t_F_nc f2 rfl (by decide)) (t_F_nc f2 rfl (by decide)) (t_F_nc f2 rfl (by decide)) (t_F_nc f2 rfl (by decide)) (t_F_nc f2 rfl (by decide)) (t_F_nc f2 rfl (by decide)) (t_F_nc f2 rfl (by decide))
                                                            have hO2 := s_skz_ok (m := (gi13 45 5).toInt) (n := ((s_PY D ar3.toInt) 0 0).toNat) (k := 0) hO1
                                                            have e5b : (gi41 45 5).toInt = (gi13 45 5).toInt := (congrArg Int32.toInt (f2 45 5 (by decide) rfl).1).trans e5
                                                            have u7b := hz2.1.2.1
                                                            have v7b : (gi41 45 7).toInt = (gi19 45 7).toInt := congrArg Int32.toInt (f2 45 7 (by decide) rfl).1
                                                            have emn : s_mn (s_PY D ar3.toInt) (fun F => s_ac F R) (gi13 45 5).toInt Z = _ := (s_mn_n (A := (fun F => s_ac F R)) (by omega))
                                                            rw [← emn] at hz2
                                                            have en : (g68 45 5).toInt = (gi13 45 5).toInt + 1 := by rw [e68, x_up2_at]; omega
                                                            refine ⟨_, hL2.fr (congrFun (funext fun j => by rw [e68, x_up2_off (Or.inl (by decide))]) 0) (congrFun (funext fun j => by rw [e68, x_up2_off (Or.inl (by decide))]) 0) (funext fun j => by rw [e68, x_up2_off (Or.inl (by decide))]) (funext fun j => by rw [e68, x_up2_off (Or.inl (by decide))]) (funext fun j => by rw [e68, x_up2_off (Or.inl (by decide))]) (funext fun j => by rw [e68, x_up2_off (Or.inl (by decide))]) (funext fun j => by rw [e68, x_up2_off (Or.inl (by decide))]) (funext fun j => by rw [e68, x_up2_off (Or.inl (by decide))]) (funext fun j => by rw [e68, x_up2_off (Or.inl (by decide))]), hz2.eq (fun j a b => by rw [e68, x_up2_off (Or.inr (by omega))]) (funext fun j => by rw [e68, x_up2_off (Or.inl (by decide))]), s_mn_ok hO (by omega) hP, ?_⟩
                                                            rw [en, ← hY, show (301 - (gi13 45 5).toInt).toNat = (301 - ((gi13 45 5).toInt + 1)).toNat + 1 by omega, s_dy_s hnd])) rfl
  refine ev_sub (lo := [(0, .ref 45), (1, .ref ar1), (2, .ref ar2), (3, .int ar3)]) rfl (t_sc rfl (t_sc rfl (t_sc rfl (t_sc rfl t_sn)))) ?_
  exact L13 _ g12 gl2 gr2  hI hX p_a1 p_a2 (fun D R hl hc hv hb hsl hd h4 h5 hsd hU hg h2 => (by
                                                            obtain ⟨hL, hS⟩ := q2 D hl hc hv hb hsl hd hsd
                                                            refine ⟨fun _ => 0, hL.fr (congrFun (funext fun j => by rw [e12, x_up2_off (Or.inl (by decide)), e11, x_up2_off (Or.inl (by decide)), e10, x_up2_off (Or.inl (by decide)), e9, x_up2_off (Or.inl (by decide)), e8, x_up2_off (Or.inl (by decide)), e7, x_up2_off (Or.inl (by decide)), e6, x_up2_off (Or.inl (by decide)), e5, x_up2_off (Or.inl (by decide)), e4, x_up2_off (Or.inl (by decide)), e3, x_up2_off (Or.inl (by decide))]) 0) (congrFun (funext fun j => by rw [e12, x_up2_off (Or.inl (by decide)), e11, x_up2_off (Or.inl (by decide)), e10, x_up2_off (Or.inl (by decide)), e9, x_up2_off (Or.inl (by decide)), e8, x_up2_off (Or.inl (by decide)), e7, x_up2_off (Or.inl (by decide)), e6, x_up2_off (Or.inl (by decide)), e5, x_up2_off (Or.inl (by decide)), e4, x_up2_off (Or.inl (by decide)), e3, x_up2_off (Or.inl (by decide))]) 0) (funext fun j => by rw [e12, x_up2_off (Or.inl (by decide)), e11, x_up2_off (Or.inl (by decide)), e10, x_up2_off (Or.inl (by decide)), e9, x_up2_off (Or.inl (by decide)), e8, x_up2_off (Or.inl (by decide)), e7, x_up2_off (Or.inl (by decide)), e6, x_up2_off (Or.inl (by decide)), e5, x_up2_off (Or.inl (by decide)), e4, x_up2_off (Or.inl (by decide)), e3, x_up2_off (Or.inl (by decide))]) (funext fun j => by rw [e12, x_up2_off (Or.inl (by decide)), e11, x_up2_off (Or.inl (by decide)), e10, x_up2_off (Or.inl (by decide)), e9, x_up2_off (Or.inl (by decide)), e8, x_up2_off (Or.inl (by decide)), e7, x_up2_off (Or.inl (by decide)), e6, x_up2_off (Or.inl (by decide)), e5, x_up2_off (Or.inl (by decide)), e4, x_up2_off (Or.inl (by decide)), e3, x_up2_off (Or.inl (by decide))]) (funext fun j => by rw [e12, x_up2_off (Or.inl (by decide)), e11, x_up2_off (Or.inl (by decide)), e10, x_up2_off (Or.inl (by decide)), e9, x_up2_off (Or.inl (by decide)), e8, x_up2_off (Or.inl (by decide)), e7, x_up2_off (Or.inl (by decide)), e6, x_up2_off (Or.inl (by decide)), e5, x_up2_off (Or.inl (by decide)), e4, x_up2_off (Or.inl (by decide)), e3, x_up2_off (Or.inl (by decide))]) (funext fun j => by rw [e12, x_up2_off (Or.inl (by decide)), e11, x_up2_off (Or.inl (by decide)), e10, x_up2_off (Or.inl (by decide)), e9, x_up2_off (Or.inl (by decide)), e8, x_up2_off (Or.inl (by decide)), e7, x_up2_off (Or.inl (by decide)), e6, x_up2_off (Or.inl (by decide)), e5, x_up2_off (Or.inl (by decide)), e4, x_up2_off (Or.inl (by decide)), e3, x_up2_off (Or.inl (by decide))]) (funext fun j => by rw [e12, x_up2_off (Or.inl (by decide)), e11, x_up2_off (Or.inl (by decide)), e10, x_up2_off (Or.inl (by decide)), e9, x_up2_off (Or.inl (by decide)), e8, x_up2_off (Or.inl (by decide)), e7, x_up2_off (Or.inl (by decide)), e6, x_up2_off (Or.inl (by decide)), e5, x_up2_off (Or.inl (by decide)), e4, x_up2_off (Or.inl (by decide)), e3, x_up2_off (Or.inl (by decide))]) (funext fun j => by rw [e12, x_up2_off (Or.inl (by decide)), e11, x_up2_off (Or.inl (by decide)), e10, x_up2_off (Or.inl (by decide)), e9, x_up2_off (Or.inl (by decide)), e8, x_up2_off (Or.inl (by decide)), e7, x_up2_off (Or.inl (by decide)), e6, x_up2_off (Or.inl (by decide)), e5, x_up2_off (Or.inl (by decide)), e4, x_up2_off (Or.inl (by decide)), e3, x_up2_off (Or.inl (by decide))]) (funext fun j => by rw [e12, x_up2_off (Or.inl (by decide)), e11, x_up2_off (Or.inl (by decide)), e10, x_up2_off (Or.inl (by decide)), e9, x_up2_off (Or.inl (by decide)), e8, x_up2_off (Or.inl (by decide)), e7, x_up2_off (Or.inl (by decide)), e6, x_up2_off (Or.inl (by decide)), e5, x_up2_off (Or.inl (by decide)), e4, x_up2_off (Or.inl (by decide)), e3, x_up2_off (Or.inl (by decide))]), ⟨⟨(by rw [e12, x_up2_off (Or.inr (by decide)), e11, x_up2_off (Or.inr (by decide)), e10, x_up2_off (Or.inr (by decide)), e9, x_up2_off (Or.inr (by decide)), e8, x_up2_off (Or.inr (by decide)), e7, x_up2_off (Or.inr (by decide)), e6, x_up2_off (Or.inr (by decide)), e5, x_up2_off (Or.inr (by decide)), e4, x_up2_off (Or.inr (by decide)), e3, x_up2_at]; rfl), (by rw [e12, x_up2_off (Or.inr (by decide)), e11, x_up2_off (Or.inr (by decide)), e10, x_up2_off (Or.inr (by decide)), e9, x_up2_off (Or.inr (by decide)), e8, x_up2_off (Or.inr (by decide)), e7, x_up2_off (Or.inr (by decide)), e6, x_up2_off (Or.inr (by decide)), e5, x_up2_off (Or.inr (by decide)), e4, x_up2_at]; rfl), (by rw [e12, x_up2_off (Or.inr (by decide)), e11, x_up2_off (Or.inr (by decide)), e10, x_up2_off (Or.inr (by decide)), e9, x_up2_off (Or.inr (by decide)), e8, x_up2_off (Or.inr (by decide)), e7, x_up2_off (Or.inr (by decide)), e6, x_up2_off (Or.inr (by decide)), e5, x_up2_at]; rfl), (by rw [e12, x_up2_off (Or.inr (by decide)), e11, x_up2_off (Or.inr (by decide)), e10, x_up2_off (Or.inr (by decide)), e9, x_up2_off (Or.inr (by decide)), e8, x_up2_off (Or.inr (by decide)), e7, x_up2_off (Or.inr (by decide)), e6, x_up2_at]; rfl), (by rw [e12, x_up2_off (Or.inr (by decide)), e11, x_up2_off (Or.inr (by decide)), e10, x_up2_off (Or.inr (by decide)), e9, x_up2_off (Or.inr (by decide)), e8, x_up2_off (Or.inr (by decide)), e7, x_up2_at]; rfl)⟩, ⟨(by rw [e12, x_up2_off (Or.inr (by decide)), e11, x_up2_off (Or.inr (by decide)), e10, x_up2_off (Or.inr (by decide)), e9, x_up2_off (Or.inr (by decide)), e8, x_up2_at]; rfl), (by rw [e12, x_up2_off (Or.inr (by decide)), e11, x_up2_off (Or.inr (by decide)), e10, x_up2_off (Or.inr (by decide)), e9, x_up2_at]; rfl)⟩, fun k hk => ?_⟩, ⟨Or.inl rfl, Int.le_refl 0, ?_, Int.le_refl 0, Int.le_refl 0, (by show (0 : Int) ≤ 301; decide)⟩, ?_⟩
                                                            · rw [e12, x_up2_off (Or.inl (by decide)), e11, x_up2_off (Or.inl (by decide)), e10, x_up2_off (Or.inl (by decide)), e9, x_up2_off (Or.inl (by decide)), e8, x_up2_off (Or.inl (by decide)), e7, x_up2_off (Or.inl (by decide)), e6, x_up2_off (Or.inl (by decide)), e5, x_up2_off (Or.inl (by decide)), e4, x_up2_off (Or.inl (by decide)), e3, x_up2_off (Or.inl (by decide))]; exact hS k (by have b1 := hb.2.1; have : (k : Int) < (((D 1).toNat : Nat) : Int) := hk; omega)
                                                            · show 0 ≤ (((D 2).toNat : Nat) : Int); omega
                                                            · rw [show (g12 45 5).toInt = 0 by rw [e12, x_up2_at]; rfl]; rfl)) rfl
