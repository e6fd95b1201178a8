/-! ===== printed by riv.py: how many COUPLES are ALIKE ===== -/
noncomputable def wl_d_couplesAlike : List (Nat × Nat) := []
noncomputable def Q_d_couplesAlike (gi : Nat → Nat → Int32) (gl : Nat → Nat → Int64) (gr : Nat → Nat → Value) (ar0 : Nat) (ar1 : Int32) : Int32 → (Nat → Nat → Int32) → (Nat → Nat → Int64) → (Nat → Nat → Value) → Prop := fun (v : Int32) (gi2 : Nat → Nat → Int32) (gl2 : Nat → Nat → Int64) (gr2 : Nat → Nat → Value) => ∀ D : s_D, t_VL gr ar0 → t_CV gi gl ar0 D → t_Cb D → v.toInt = s_al D ar1.toInt
theorem c_d_couplesAlike {X : x_Ext} {d : Nat} {sh : List (Nat ⊕ (Nat × Nat))} {gi : Nat → Nat → Int32} {gl : Nat → Nat → Int64} {gr : Nat → Nat → Value} (hI : t_I sh gi gr) (ar0 : Nat) (p_a0 : t_Rv sh gr ar0) (ar1 : Int32) : x_Me X (d + 2) n_X5_couplesAlike [.ref ar0, .int ar1] (sh, gi, gl, gr) (t_PI wl_d_couplesAlike sh gi gl gr 0 36 (Q_d_couplesAlike gi gl gr ar0 ar1)) := by
  have hX : t_X wl_d_couplesAlike sh gi gl gr gi gl gr := t_X.rf
  refine me_i f_X5_couplesAlike p_a0.1 rfl rfl rfl ?_
  refine ev_ic f_X5_couplesAlike (nx := 1) (v := 0) rfl (by decide) rfl ?_
  refine ev_loc f_X5_couplesAlike (nx := 2) (lo' := [(2, .int 0), (0, .ref ar0), (1, .int ar1)]) rfl rfl rfl rfl ?_
  refine ev_ic f_X5_couplesAlike (nx := 3) (v := 0) rfl (by decide) rfl ?_
  refine ev_loc f_X5_couplesAlike (nx := 4) (lo' := [(3, .int 0), (2, .int 0), (0, .ref ar0), (1, .int ar1)]) rfl rfl rfl rfl ?_
  have L1 : ∀ (m1 : Nat) (y1_3 : Int32) (y1_2 : Int32), 0 ≤ y1_3.toInt → y1_3.toInt ≤ 6 → 0 ≤ y1_2.toInt → y1_2.toInt ≤ 36 → y1_2.toInt ≤ 6 * y1_3.toInt → (∀ D : s_D, t_VL gr ar0 → t_CV gi gl ar0 D → t_Cb D → y1_2.toInt = s_ao D ar1.toInt (D 0).toNat y1_3.toNatClampNeg ∧ y1_3.toInt ≤ D 0) → (6 - y1_3.toInt).toNat = m1 → x_Ev X (d + 2) n_X5_couplesAlike 4 [(3, .int y1_3), (2, .int y1_2), (0, .ref ar0), (1, .int ar1)] [] (sh, gi, gl, gr) (t_PI wl_d_couplesAlike sh gi gl gr 0 36 (Q_d_couplesAlike gi gl gr ar0 ar1)) := by
    intro m1
    induction m1 using Nat.strongRecOn with
    | _ m1 ih1 =>
    intro y1_3 y1_2 l1_3 u1_3 l1_2 u1_2 j1_0 j1_1 hm1
    refine ev_loc f_X5_couplesAlike (nx := 5) rfl rfl rfl rfl ?_
    refine ev_loc f_X5_couplesAlike (nx := 6) rfl rfl rfl rfl ?_
    refine ev_getI f_X5_couplesAlike (nx := 9) rfl p_a0.1 rfl rfl rfl ?_
    obtain ⟨l2, u2⟩ := hI.b p_a0.1 (t_bdK rfl : t_bd 4 0 = some (0, 6))
    refine ev_if f_X5_couplesAlike (t1 := 66) (t2 := 12) rfl rfl rfl (fun h3 => ?_) (fun h3 => ?_)
    · have r4 : (gi ar0 0).toInt ≤ y1_3.toInt := Int32.le_iff_toInt_le.mp h3
      refine ev_loc f_X5_couplesAlike (nx := 67) rfl rfl rfl rfl ?_
      exact ev_ret f_X5_couplesAlike rfl rfl rfl ⟨_, _, _, rfl, hI, hX, ⟨_, rfl, l1_2, u1_2, (show ∀ D : s_D, t_VL gr ar0 → t_CV gi gl ar0 D → t_Cb D → y1_2.toInt = s_al D ar1.toInt from (by
                                                            intro D hl hc hb
                                                            obtain ⟨g1, g2⟩ := j1_1 D hl hc hb
                                                            have hm := hc.1.1
                                                            have ck := t_clamp (i := y1_3) (by omega)
                                                            rw [g1, show y1_3.toNatClampNeg = (D 0).toNat from (by omega)]; rfl))⟩⟩
    · have r5 : y1_3.toInt < (gi ar0 0).toInt := Int32.lt_iff_toInt_lt.mp (t_nle h3)
      have u6 : y1_3.toInt ≤ 5 := t_ltu (t_nle h3) u2 rfl
      have l7 : 1 ≤ (gi ar0 0).toInt := t_ltl (t_nle h3) l1_3 rfl
      refine ev_loc f_X5_couplesAlike (nx := 13) rfl rfl rfl rfl ?_
      refine ev_ic f_X5_couplesAlike (nx := 14) (v := 1) rfl (by decide) rfl ?_
      refine ev_addC f_X5_couplesAlike (nx := 15) (c := 1) (l := 1) (u := 6) rfl (by decide) l1_3 u6 rfl rfl (by decide) (by decide) rfl (fun z8 e8 l8 u8 => ?_)
      refine ev_loc f_X5_couplesAlike (nx := 17) (lo' := [(4, .int z8), (3, .int y1_3), (2, .int y1_2), (0, .ref ar0), (1, .int ar1)]) rfl rfl rfl rfl ?_
      have L9 : ∀ (m9 : Nat) (y9_4 : Int32) (y9_2 : Int32), 1 ≤ y9_4.toInt → y9_4.toInt ≤ 6 → 0 ≤ y9_2.toInt → y9_2.toInt ≤ 42 → y9_2.toInt ≤ 6 * y1_3.toInt + y9_4.toInt → (∀ D : s_D, t_VL gr ar0 → t_CV gi gl ar0 D → t_Cb D → y9_2.toInt = s_ao D ar1.toInt (D 0).toNat y1_3.toNatClampNeg + s_ai D ar1.toInt y1_3.toNatClampNeg y9_4.toNatClampNeg ∧ y1_3.toInt < y9_4.toInt ∧ y9_4.toInt ≤ D 0) → (6 - y9_4.toInt).toNat = m9 → x_Ev X (d + 2) n_X5_couplesAlike 17 [(4, .int y9_4), (3, .int y1_3), (2, .int y9_2), (0, .ref ar0), (1, .int ar1)] [] (sh, gi, gl, gr) (t_PI wl_d_couplesAlike sh gi gl gr 0 36 (Q_d_couplesAlike gi gl gr ar0 ar1)) := by
        intro m9
        induction m9 using Nat.strongRecOn with
        | _ m9 ih9 =>
        intro y9_4 y9_2 l9_4 u9_4 l9_2 u9_2 j9_0 j9_1 hm9
        refine ev_loc f_X5_couplesAlike (nx := 19) rfl rfl rfl rfl ?_
        refine ev_loc f_X5_couplesAlike (nx := 20) rfl rfl rfl rfl ?_
        refine ev_gvI f_X5_couplesAlike (nx := 23) (w := (gi ar0 0)) rfl p_a0.1 rfl rfl rfl rfl ?_
        refine ev_if f_X5_couplesAlike (t1 := 60) (t2 := 26) rfl rfl rfl (fun h10 => ?_) (fun h10 => ?_)
        · have r11 : (gi ar0 0).toInt ≤ y9_4.toInt := Int32.le_iff_toInt_le.mp h10
          refine ev_incR f_X5_couplesAlike (nx := 63) (c := 1) (l := 1) (u := 6) rfl rfl (by decide) (by decide) l1_3 u6 rfl rfl (by decide) (by decide) rfl (fun z12 e12 l12 u12 => ?_)
          refine ev_jmp f_X5_couplesAlike (nx := 4) rfl rfl rfl ?_
          refine ev_sub (lo := [(3, .int z12), (2, .int y9_2), (0, .ref ar0), (1, .int ar1)]) rfl (t_sc rfl (t_sc rfl (t_sc rfl (t_sc rfl t_sn)))) ?_
          exact ih1 _ (by omega) (z12) (y9_2) (Int.le_trans (by decide : (0:Int) ≤ 1) l12) u12 l9_2 (by omega : y9_2.toInt ≤ (36:Int)) (by omega) (by
                                                            intro D hl hc hb
                                                            obtain ⟨g1, g2, g3⟩ := j9_1 D hl hc hb
                                                            have hm := hc.1.1
                                                            refine ⟨s_ao_s g1 (by omega) (by omega) (by omega) (by omega), by omega⟩) rfl
        · have r13 : y9_4.toInt < (gi ar0 0).toInt := Int32.lt_iff_toInt_lt.mp (t_nle h10)
          have u14 : y9_4.toInt ≤ 5 := t_ltu (t_nle h10) u2 rfl
          have l15 : 2 ≤ (gi ar0 0).toInt := t_ltl (t_nle h10) l9_4 rfl
          refine ev_loc f_X5_couplesAlike (nx := 27) rfl rfl rfl rfl ?_
          obtain ⟨a16, e16, s16, o16⟩ := p_a0.2.2.1
          refine ev_getR f_X5_couplesAlike (nx := 30) rfl p_a0.1 rfl rfl e16 rfl rfl ?_
          refine ev_loc f_X5_couplesAlike (nx := 31) rfl rfl rfl rfl ?_
          refine ev_laldT f_X5_couplesAlike (nx := 32) rfl s16 l1_3 (by decide) u6 (by decide) rfl (fun w17 e17 => ?_)
          refine ev_loc f_X5_couplesAlike (nx := 33) rfl rfl rfl rfl ?_
          refine ev_inS2 f_X5_couplesAlike (nx := 36) (lo2 := [(0, .long w17), (2, .int ar1)]) rfl rfl rfl rfl f_X5_withEcho rfl rfl rfl rfl ?_
          refine ev_loc f_X5_withEcho (nx := 1) rfl rfl rfl rfl ?_
          refine ev_loc f_X5_withEcho (nx := 2) rfl rfl rfl rfl ?_
          refine ev_loc f_X5_withEcho (nx := 3) rfl rfl rfl rfl ?_
          refine ev_anyLE f_X5_withEcho (nx := 4) rfl rfl rfl rfl (fun z18 e18 => ?_)
          refine ev_anyLE f_X5_withEcho (nx := 5) rfl rfl rfl rfl (fun z19 e19 => ?_)
          refine ev_retK1 f_X5_withEcho rfl rfl rfl ?_
          refine ev_loc f_X5_couplesAlike (nx := 37) rfl rfl rfl rfl ?_
          refine ev_getR f_X5_couplesAlike (nx := 40) (v := .ref a16) rfl p_a0.1 rfl rfl e16 rfl rfl ?_
          refine ev_loc f_X5_couplesAlike (nx := 42) rfl rfl rfl rfl ?_
          refine ev_laldT f_X5_couplesAlike (nx := 43) rfl s16 l9_4 (by decide) u14 (by decide) rfl (fun w20 e20 => ?_)
          refine ev_loc f_X5_couplesAlike (nx := 44) rfl rfl rfl rfl ?_
          refine ev_inS2 f_X5_couplesAlike (nx := 47) (lo2 := [(0, .long w20), (2, .int ar1)]) rfl rfl rfl rfl f_X5_withEcho rfl rfl rfl rfl ?_
          refine ev_loc f_X5_withEcho (nx := 1) rfl rfl rfl rfl ?_
          refine ev_loc f_X5_withEcho (nx := 2) rfl rfl rfl rfl ?_
          refine ev_loc f_X5_withEcho (nx := 3) rfl rfl rfl rfl ?_
          refine ev_anyLE f_X5_withEcho (nx := 4) rfl rfl rfl rfl (fun z21 e21 => ?_)
          refine ev_anyLE f_X5_withEcho (nx := 5) rfl rfl rfl rfl (fun z22 e22 => ?_)
          refine ev_retK1 f_X5_withEcho rfl rfl rfl ?_
          refine ev_anyIE f_X5_couplesAlike (nx := 48) rfl rfl rfl rfl (fun z23 e23 => ?_)
          refine ev_if f_X5_couplesAlike (t1 := 51) (t2 := 54) rfl rfl rfl (fun h24 => ?_) (fun h24 => ?_)
          · have u25 : z23.toInt ≤ 0 := t_equ h24 (by decide : (0:Int32).toInt ≤ (0:Int))
            have l26 : 0 ≤ z23.toInt := t_eql h24 (by decide : (0:Int) ≤ (0:Int32).toInt)
            refine ev_incR f_X5_couplesAlike (nx := 54) (c := 1) (l := 1) (u := 43) rfl rfl (by decide) (by decide) l9_2 u9_2 rfl rfl (by decide) (by decide) rfl (fun z27 e27 l27 u27 => ?_)
            refine ev_incR f_X5_couplesAlike (nx := 57) (c := 1) (l := 2) (u := 6) rfl rfl (by decide) (by decide) l9_4 u14 rfl rfl (by decide) (by decide) rfl (fun z28 e28 l28 u28 => ?_)
            refine ev_jmp f_X5_couplesAlike (nx := 17) rfl rfl rfl ?_
            refine ev_sub (lo := [(4, .int z28), (3, .int y1_3), (2, .int z27), (0, .ref ar0), (1, .int ar1)]) rfl (t_sc rfl (t_sc rfl (t_sc rfl (t_sc rfl (t_sc rfl t_sn))))) ?_
            exact ih9 _ (by omega) (z28) (z27) (Int.le_trans (by decide : (1:Int) ≤ 2) l28) u28 (Int.le_trans (by decide : (0:Int) ≤ 1) l27) (by omega : z27.toInt ≤ (42:Int)) (by omega) (by
                                                            intro D hl hc hb
                                                            obtain ⟨g1, g2, g3⟩ := j9_1 D hl hc hb
                                                            have hb0 : a16 = (ar0 + 2) := (Value.ref.inj ((hl.1.2.1).symm.trans e16)).symm
                                                            subst hb0
                                                            have hm := hc.1.1
                                                            have ha : z19 = s_ec (s_so D y1_3.toNatClampNeg) ar1.toInt := by
                                                              have ck := t_clamp (i := y1_3) (by omega)
                                                              have hw : w17 = s_so D y1_3.toNatClampNeg := by rw [e17]; exact s_so_h (hc.1.2 y1_3.toNatClampNeg (by omega))
                                                              rw [← hw]
                                                              exact s_ec_e e18 e19 rfl
                                                            have hb2 : z22 = s_ec (s_so D y9_4.toNatClampNeg) ar1.toInt := by
                                                              have ck := t_clamp (i := y9_4) (by omega)
                                                              have hw : w20 = s_so D y9_4.toNatClampNeg := by rw [e20]; exact s_so_h (hc.1.2 y9_4.toNatClampNeg (by omega))
                                                              rw [← hw]
                                                              exact s_ec_e e21 e22 rfl
                                                            have hne := (t_le0 e23 h24)
                                                            rw [ha, hb2] at hne
                                                            exact ⟨s_ai_y g1 (by omega) (by omega) hne (by omega) (by omega), by omega, by omega⟩) rfl
          · have r29 : z23.toInt ≠ 0 := fun e => h24 (Int32.toInt_inj.mp (e.trans (by decide : (0:Int) = (0 : Int32).toInt)))
            refine ev_incR f_X5_couplesAlike (nx := 57) (c := 1) (l := 2) (u := 6) rfl rfl (by decide) (by decide) l9_4 u14 rfl rfl (by decide) (by decide) rfl (fun z30 e30 l30 u30 => ?_)
            refine ev_jmp f_X5_couplesAlike (nx := 17) rfl rfl rfl ?_
            refine ev_sub (lo := [(4, .int z30), (3, .int y1_3), (2, .int y9_2), (0, .ref ar0), (1, .int ar1)]) rfl (t_sc rfl (t_sc rfl (t_sc rfl (t_sc rfl (t_sc rfl t_sn))))) ?_
            exact ih9 _ (by omega) (z30) (y9_2) (Int.le_trans (by decide : (1:Int) ≤ 2) l30) u30 l9_2 u9_2 (by omega) (by
                                                            intro D hl hc hb
                                                            obtain ⟨g1, g2, g3⟩ := j9_1 D hl hc hb
                                                            have hb0 : a16 = (ar0 + 2) := (Value.ref.inj ((hl.1.2.1).symm.trans e16)).symm
                                                            subst hb0
                                                            have hm := hc.1.1
                                                            have ha : z19 = s_ec (s_so D y1_3.toNatClampNeg) ar1.toInt := by
                                                              have ck := t_clamp (i := y1_3) (by omega)
                                                              have hw : w17 = s_so D y1_3.toNatClampNeg := by rw [e17]; exact s_so_h (hc.1.2 y1_3.toNatClampNeg (by omega))
                                                              rw [← hw]
                                                              exact s_ec_e e18 e19 rfl
                                                            have hb2 : z22 = s_ec (s_so D y9_4.toNatClampNeg) ar1.toInt := by
                                                              have ck := t_clamp (i := y9_4) (by omega)
                                                              have hw : w20 = s_so D y9_4.toNatClampNeg := by rw [e20]; exact s_so_h (hc.1.2 y9_4.toNatClampNeg (by omega))
                                                              rw [← hw]
                                                              exact s_ec_e e21 e22 rfl
                                                            have hne := (t_le1 e23 h24)
                                                            rw [ha, hb2] at hne
                                                            exact ⟨s_ai_n g1 (by omega) (by omega) hne (by omega) (by omega), by omega, by omega⟩) rfl
      refine ev_sub (lo := [(4, .int z8), (3, .int y1_3), (2, .int y1_2), (0, .ref ar0), (1, .int ar1)]) rfl (t_sc rfl (t_sc rfl (t_sc rfl (t_sc rfl (t_sc rfl t_sn))))) ?_
      exact L9 _ (z8) (y1_2) l8 u8 l1_2 (Int.le_trans u1_2 (by decide : (36:Int) ≤ 42)) (by omega) (by
                                                            intro D hl hc hb
                                                            obtain ⟨g1, g2⟩ := j1_1 D hl hc hb
                                                            have hm := hc.1.1
                                                            refine ⟨s_ai_b g1 (by omega) (by omega), by omega, by omega⟩) rfl
  refine ev_sub (lo := [(3, .int 0), (2, .int 0), (0, .ref ar0), (1, .int ar1)]) rfl (t_sc rfl (t_sc rfl (t_sc rfl (t_sc rfl t_sn)))) ?_
  exact L1 _ (0) (0) (by decide : (0:Int) ≤ (0:Int32).toInt) (Int.le_trans (by decide : (0:Int32).toInt ≤ (0:Int)) (by decide : (0:Int) ≤ 6)) (by decide : (0:Int) ≤ (0:Int32).toInt) (Int.le_trans (by decide : (0:Int32).toInt ≤ (0:Int)) (by decide : (0:Int) ≤ 36)) (by have kf31 : (0 : Int32).toInt = 0 := (by decide); omega) (fun D hl hc hb => ⟨rfl, by have z0 : (0 : Int32).toInt = 0 := rfl; have := hb.1.1; omega⟩) rfl
noncomputable def wl_n_alikeBy : List (Nat × Nat) := []
noncomputable def Q_n_alikeBy (gi : Nat → Nat → Int32) (gl : Nat → Nat → Int64) (gr : Nat → Nat → Value) (ar1 : Int32) : Int32 → (Nat → Nat → Int32) → (Nat → Nat → Int64) → (Nat → Nat → Value) → Prop := fun (v : Int32) (gi2 : Nat → Nat → Int32) (gl2 : Nat → Nat → Int64) (gr2 : Nat → Nat → Value) => ∀ D : s_D, t_ME 0 gi D → t_Cb D → v.toInt = s_al D ar1.toInt
theorem c_n_alikeBy {X : x_Ext} {d : Nat} {sh : List (Nat ⊕ (Nat × Nat))} {gi : Nat → Nat → Int32} {gl : Nat → Nat → Int64} {gr : Nat → Nat → Value} (hI : t_I sh gi gr) (ar1 : Int32) (l_a1 : 0 ≤ ar1.toInt) (u_a1 : ar1.toInt ≤ 9) : x_Me X (d + 3) n_X12_alikeBy [.ref 69, .int ar1] (sh, gi, gl, gr) (t_PI wl_n_alikeBy sh gi gl gr 0 36 (Q_n_alikeBy gi gl gr ar1)) := by
  have hX : t_X wl_n_alikeBy sh gi gl gr gi gl gr := t_X.rf
  refine me_i f_X12_alikeBy (hI.wf.s rfl) rfl rfl rfl ?_
  refine ev_ic f_X12_alikeBy (nx := 1) (v := 0) rfl (by decide) rfl ?_
  refine ev_loc f_X12_alikeBy (nx := 2) (lo' := [(2, .int 0), (0, .ref 69), (1, .int ar1)]) rfl rfl rfl rfl ?_
  refine ev_ic f_X12_alikeBy (nx := 3) (v := 0) rfl (by decide) rfl ?_
  refine ev_loc f_X12_alikeBy (nx := 4) (lo' := [(3, .int 0), (2, .int 0), (0, .ref 69), (1, .int ar1)]) rfl rfl rfl rfl ?_
  have L1 : ∀ (m1 : Nat) (y1_3 : Int32) (y1_2 : Int32), 0 ≤ y1_3.toInt → y1_3.toInt ≤ 6 → 0 ≤ y1_2.toInt → y1_2.toInt ≤ 36 → y1_2.toInt ≤ 6 * y1_3.toInt → (∀ D : s_D, t_ME 0 gi D → t_Cb D → y1_2.toInt = s_ao D ar1.toInt (D 0).toNat y1_3.toNatClampNeg ∧ y1_3.toInt ≤ D 0) → (6 - y1_3.toInt).toNat = m1 → x_Ev X (d + 3) n_X12_alikeBy 4 [(3, .int y1_3), (2, .int y1_2), (0, .ref 69), (1, .int ar1)] [] (sh, gi, gl, gr) (t_PI wl_n_alikeBy sh gi gl gr 0 36 (Q_n_alikeBy gi gl gr ar1)) := by
    intro m1
    induction m1 using Nat.strongRecOn with
    | _ m1 ih1 =>
    intro y1_3 y1_2 l1_3 u1_3 l1_2 u1_2 j1_0 j1_1 hm1
    refine ev_loc f_X12_alikeBy (nx := 5) rfl rfl rfl rfl ?_
    refine ev_loc f_X12_alikeBy (nx := 6) rfl rfl rfl rfl ?_
    refine ev_getR f_X12_alikeBy (nx := 9) rfl (hI.wf.s rfl) rfl rfl (hI.wf.r rfl) rfl rfl ?_
    refine ev_ic f_X12_alikeBy (nx := 10) (v := 0) rfl (by decide) rfl ?_
    obtain ⟨l2, u2⟩ := hI.ab (by decide +kernel : t_abr 70 0 0 0 6 = true) (Nat.le_refl _) (Nat.le_refl _)
    refine ev_ialdv f_X12_alikeBy (nx := 11) (w := (gi 70 0)) rfl (hI.wf.s rfl) (by decide) (rfl : (0 : Int32).toNatClampNeg = 0) (by decide) rfl rfl ?_
    refine ev_if f_X12_alikeBy (t1 := 73) (t2 := 14) rfl rfl rfl (fun h3 => ?_) (fun h3 => ?_)
    · have r4 : (gi 70 0).toInt ≤ y1_3.toInt := Int32.le_iff_toInt_le.mp h3
      refine ev_loc f_X12_alikeBy (nx := 74) rfl rfl rfl rfl ?_
      exact ev_ret f_X12_alikeBy rfl rfl rfl ⟨_, _, _, rfl, hI, hX, ⟨_, rfl, l1_2, u1_2, (show ∀ D : s_D, t_ME 0 gi D → t_Cb D → y1_2.toInt = s_al D ar1.toInt from (by
                                                            intro D hm hb
                                                            obtain ⟨g1, g2⟩ := j1_1 D hm hb
                                                            have h0 : (gi 70 0).toInt = D 0 := hm.1.1.1
                                                            have ck := t_clamp (i := y1_3) (by omega)
                                                            rw [g1, show y1_3.toNatClampNeg = (D 0).toNat from (by omega)]; rfl))⟩⟩
    · have r5 : y1_3.toInt < (gi 70 0).toInt := Int32.lt_iff_toInt_lt.mp (t_nle h3)
      have u6 : y1_3.toInt ≤ 5 := t_ltu (t_nle h3) u2 rfl
      have l7 : 1 ≤ (gi 70 0).toInt := t_ltl (t_nle h3) l1_3 rfl
      refine ev_loc f_X12_alikeBy (nx := 15) rfl rfl rfl rfl ?_
      refine ev_ic f_X12_alikeBy (nx := 16) (v := 1) rfl (by decide) rfl ?_
      refine ev_addC f_X12_alikeBy (nx := 17) (c := 1) (l := 1) (u := 6) rfl (by decide) l1_3 u6 rfl rfl (by decide) (by decide) rfl (fun z8 e8 l8 u8 => ?_)
      refine ev_loc f_X12_alikeBy (nx := 19) (lo' := [(4, .int z8), (3, .int y1_3), (2, .int y1_2), (0, .ref 69), (1, .int ar1)]) rfl rfl rfl rfl ?_
      have L9 : ∀ (m9 : Nat) (y9_4 : Int32) (y9_2 : Int32), 1 ≤ y9_4.toInt → y9_4.toInt ≤ 6 → 0 ≤ y9_2.toInt → y9_2.toInt ≤ 42 → y9_2.toInt ≤ 6 * y1_3.toInt + y9_4.toInt → (∀ D : s_D, t_ME 0 gi D → t_Cb D → y9_2.toInt = s_ao D ar1.toInt (D 0).toNat y1_3.toNatClampNeg + s_ai D ar1.toInt y1_3.toNatClampNeg y9_4.toNatClampNeg ∧ y1_3.toInt < y9_4.toInt ∧ y9_4.toInt ≤ D 0) → (6 - y9_4.toInt).toNat = m9 → x_Ev X (d + 3) n_X12_alikeBy 19 [(4, .int y9_4), (3, .int y1_3), (2, .int y9_2), (0, .ref 69), (1, .int ar1)] [] (sh, gi, gl, gr) (t_PI wl_n_alikeBy sh gi gl gr 0 36 (Q_n_alikeBy gi gl gr ar1)) := by
        intro m9
        induction m9 using Nat.strongRecOn with
        | _ m9 ih9 =>
        intro y9_4 y9_2 l9_4 u9_4 l9_2 u9_2 j9_0 j9_1 hm9
        refine ev_loc f_X12_alikeBy (nx := 21) rfl rfl rfl rfl ?_
        refine ev_loc f_X12_alikeBy (nx := 22) rfl rfl rfl rfl ?_
        refine ev_getR f_X12_alikeBy (nx := 25) rfl (hI.wf.s rfl) rfl rfl (hI.wf.r rfl) rfl rfl ?_
        refine ev_ic f_X12_alikeBy (nx := 26) (v := 0) rfl (by decide) rfl ?_
        refine ev_ialdv f_X12_alikeBy (nx := 27) (w := (gi 70 0)) rfl (hI.wf.s rfl) (by decide) (rfl : (0 : Int32).toNatClampNeg = 0) (by decide) rfl rfl ?_
        refine ev_if f_X12_alikeBy (t1 := 67) (t2 := 30) rfl rfl rfl (fun h11 => ?_) (fun h11 => ?_)
        · have r12 : (gi 70 0).toInt ≤ y9_4.toInt := Int32.le_iff_toInt_le.mp h11
          refine ev_incR f_X12_alikeBy (nx := 70) (c := 1) (l := 1) (u := 6) rfl rfl (by decide) (by decide) l1_3 u6 rfl rfl (by decide) (by decide) rfl (fun z13 e13 l13 u13 => ?_)
          refine ev_jmp f_X12_alikeBy (nx := 4) rfl rfl rfl ?_
          refine ev_sub (lo := [(3, .int z13), (2, .int y9_2), (0, .ref 69), (1, .int ar1)]) rfl (t_sc rfl (t_sc rfl (t_sc rfl (t_sc rfl t_sn)))) ?_
          exact ih1 _ (by omega) (z13) (y9_2) (Int.le_trans (by decide : (0:Int) ≤ 1) l13) u13 l9_2 (by omega : y9_2.toInt ≤ (36:Int)) (by omega) (by
                                                            intro D hm hb
                                                            obtain ⟨g1, g2, g3⟩ := j9_1 D hm hb
                                                            have h0 : (gi 70 0).toInt = D 0 := hm.1.1.1
                                                            refine ⟨s_ao_s g1 (by omega) (by omega) (by omega) (by omega), by omega⟩) rfl
        · have r14 : y9_4.toInt < (gi 70 0).toInt := Int32.lt_iff_toInt_lt.mp (t_nle h11)
          have u15 : y9_4.toInt ≤ 5 := t_ltu (t_nle h11) u2 rfl
          have l16 : 2 ≤ (gi 70 0).toInt := t_ltl (t_nle h11) l9_4 rfl
          refine ev_loc f_X12_alikeBy (nx := 31) rfl rfl rfl rfl ?_
          refine ev_loc f_X12_alikeBy (nx := 32) rfl rfl rfl rfl ?_
          refine ev_loc f_X12_alikeBy (nx := 33) rfl rfl rfl rfl ?_
          refine ev_inV2 f_X12_alikeBy (nx := 36) (lo2 := [(0, .ref 69), (1, .int y1_3)]) rfl rfl rfl rfl f_X12_soundOf (hI.wf.s rfl) rfl rfl rfl rfl rfl ?_
          refine ev_loc f_X12_soundOf (nx := 1) rfl rfl rfl rfl ?_
          refine ev_bp f_X12_soundOf (nx := 3) (v := 10) rfl (by decide) rfl ?_
          refine ev_bp f_X12_soundOf (nx := 5) (v := 7) rfl (by decide) rfl ?_
          refine ev_loc f_X12_soundOf (nx := 6) rfl rfl rfl rfl ?_
          refine ev_mulL f_X12_soundOf (nx := 7) (c := 7) (l := 0) (u := 35) rfl (by decide) (by decide) l1_3 u6 rfl rfl (by decide) (by decide) rfl (fun z17 e17 l17 u17 => ?_)
          refine ev_addK f_X12_soundOf (nx := 8) (c := 10) (l := 10) (u := 45) rfl (by decide) l17 u17 rfl rfl (by decide) (by decide) rfl (fun z18 e18 l18 u18 => ?_)
          refine ev_ic f_X12_soundOf (nx := 9) (v := 1) rfl (by decide) rfl ?_
          refine ev_addC f_X12_soundOf (nx := 10) (c := 1) (l := 11) (u := 46) rfl (by decide) l18 u18 rfl rfl (by decide) (by decide) rfl (fun z19 e19 l19 u19 => ?_)
          refine ev_loc f_X12_soundOf (nx := 11) rfl rfl rfl rfl ?_
          refine ev_getR f_X12_soundOf (nx := 14) rfl (hI.wf.s rfl) rfl rfl (hI.wf.r rfl) rfl rfl ?_
          refine ev_bp f_X12_soundOf (nx := 16) (v := 10) rfl (by decide) rfl ?_
          refine ev_bp f_X12_soundOf (nx := 18) (v := 7) rfl (by decide) rfl ?_
          refine ev_loc f_X12_soundOf (nx := 19) rfl rfl rfl rfl ?_
          refine ev_mulL f_X12_soundOf (nx := 20) (c := 7) (l := 0) (u := 35) rfl (by decide) (by decide) l1_3 u6 rfl rfl (by decide) (by decide) rfl (fun z20 e20 l20 u20 => ?_)
          refine ev_addK f_X12_soundOf (nx := 21) (c := 10) (l := 10) (u := 45) rfl (by decide) l20 u20 rfl rfl (by decide) (by decide) rfl (fun z21 e21 l21 u21 => ?_)
          refine ev_ialdT f_X12_soundOf (nx := 22) rfl (hI.wf.s rfl) l21 (by decide) u21 (by decide) rfl (fun w22 e22 => ?_)
          obtain ⟨l22, u22⟩ := hI.abA (x := y1_3) e22 (by decide +kernel : t_aba 70 10 7 0 5 (-900) 6 = true) (by omega) (by omega) (by omega)
          refine ev_qL0 f_X12_soundOf (nx := 25) (r := []) rfl rfl rfl rfl rfl rfl rfl (c_n_beatsOf hI (z19) l19 (Int.le_trans u19 (by decide : (46:Int) ≤ 1752)) (w22) u22) rfl (fun w23 q23 => ?_)
          have q23 : (0 ≤ w23.toInt ∧ w23.toInt < 16777216) ∧ (0 ≤ w22.toInt → w23 = (s_bt (fun t => gi 70 (z19.toNatClampNeg + t)) w22.toNatClampNeg).1) := q23
          refine ev_retK1 f_X12_soundOf rfl rfl rfl ?_
          refine ev_loc f_X12_alikeBy (nx := 37) rfl rfl rfl rfl ?_
          refine ev_inS2 f_X12_alikeBy (nx := 40) (lo2 := [(0, .long w23), (2, .int ar1)]) rfl rfl rfl rfl f_X12_echoed rfl rfl rfl rfl ?_
          refine ev_loc f_X12_echoed (nx := 1) rfl rfl rfl rfl ?_
          refine ev_if f_X12_echoed (t1 := 4) (t2 := 8) rfl rfl rfl (fun h24 => ?_) (fun h24 => ?_)
          · have u25 : ar1.toInt ≤ 0 := t_equ h24 (by decide : (0:Int32).toInt ≤ (0:Int))
            refine ev_loc f_X12_echoed (nx := 5) rfl rfl rfl rfl ?_
            refine ev_jmp f_X12_echoed (nx := 13) rfl rfl rfl ?_
            refine ev_retK1 f_X12_echoed rfl rfl rfl ?_
            refine ev_loc f_X12_alikeBy (nx := 41) rfl rfl rfl rfl ?_
            refine ev_loc f_X12_alikeBy (nx := 43) rfl rfl rfl rfl ?_
            refine ev_inV2 f_X12_alikeBy (nx := 46) (lo2 := [(0, .ref 69), (1, .int y9_4)]) rfl rfl rfl rfl f_X12_soundOf (hI.wf.s rfl) rfl rfl rfl rfl rfl ?_
            refine ev_loc f_X12_soundOf (nx := 1) rfl rfl rfl rfl ?_
            refine ev_bp f_X12_soundOf (nx := 3) (v := 10) rfl (by decide) rfl ?_
            refine ev_bp f_X12_soundOf (nx := 5) (v := 7) rfl (by decide) rfl ?_
            refine ev_loc f_X12_soundOf (nx := 6) rfl rfl rfl rfl ?_
            refine ev_mulL f_X12_soundOf (nx := 7) (c := 7) (l := 7) (u := 35) rfl (by decide) (by decide) l9_4 u15 rfl rfl (by decide) (by decide) rfl (fun z26 e26 l26 u26 => ?_)
            refine ev_addK f_X12_soundOf (nx := 8) (c := 10) (l := 17) (u := 45) rfl (by decide) l26 u26 rfl rfl (by decide) (by decide) rfl (fun z27 e27 l27 u27 => ?_)
            refine ev_ic f_X12_soundOf (nx := 9) (v := 1) rfl (by decide) rfl ?_
            refine ev_addC f_X12_soundOf (nx := 10) (c := 1) (l := 18) (u := 46) rfl (by decide) l27 u27 rfl rfl (by decide) (by decide) rfl (fun z28 e28 l28 u28 => ?_)
            refine ev_loc f_X12_soundOf (nx := 11) rfl rfl rfl rfl ?_
            refine ev_getR f_X12_soundOf (nx := 14) rfl (hI.wf.s rfl) rfl rfl (hI.wf.r rfl) rfl rfl ?_
            refine ev_bp f_X12_soundOf (nx := 16) (v := 10) rfl (by decide) rfl ?_
            refine ev_bp f_X12_soundOf (nx := 18) (v := 7) rfl (by decide) rfl ?_
            refine ev_loc f_X12_soundOf (nx := 19) rfl rfl rfl rfl ?_
            refine ev_mulL f_X12_soundOf (nx := 20) (c := 7) (l := 7) (u := 35) rfl (by decide) (by decide) l9_4 u15 rfl rfl (by decide) (by decide) rfl (fun z29 e29 l29 u29 => ?_)
            refine ev_addK f_X12_soundOf (nx := 21) (c := 10) (l := 17) (u := 45) rfl (by decide) l29 u29 rfl rfl (by decide) (by decide) rfl (fun z30 e30 l30 u30 => ?_)
            refine ev_ialdT f_X12_soundOf (nx := 22) rfl (hI.wf.s rfl) l30 (by decide) u30 (by decide) rfl (fun w31 e31 => ?_)
            obtain ⟨l31, u31⟩ := hI.abA (x := y9_4) e31 (by decide +kernel : t_aba 70 10 7 1 5 (-900) 6 = true) (by omega) (by omega) (by omega)
            refine ev_qL0 f_X12_soundOf (nx := 25) (r := []) rfl rfl rfl rfl rfl rfl rfl (c_n_beatsOf hI (z28) (Int.le_trans (by decide : (11:Int) ≤ 18) l28) (Int.le_trans u28 (by decide : (46:Int) ≤ 1752)) (w31) u31) rfl (fun w32 q32 => ?_)
            have q32 : (0 ≤ w32.toInt ∧ w32.toInt < 16777216) ∧ (0 ≤ w31.toInt → w32 = (s_bt (fun t => gi 70 (z28.toNatClampNeg + t)) w31.toNatClampNeg).1) := q32
            refine ev_retK1 f_X12_soundOf rfl rfl rfl ?_
            refine ev_loc f_X12_alikeBy (nx := 47) rfl rfl rfl rfl ?_
            refine ev_inS2 f_X12_alikeBy (nx := 50) (lo2 := [(0, .long w32), (2, .int ar1)]) rfl rfl rfl rfl f_X12_echoed rfl rfl rfl rfl ?_
            refine ev_loc f_X12_echoed (nx := 1) rfl rfl rfl rfl ?_
            refine ev_t f_X12_echoed (t1 := 4) (t2 := 8) rfl rfl rfl (t_eqT u25 l_a1 (by decide : (0:Int32).toInt ≤ (0:Int)) (by decide : (0:Int) ≤ (0:Int32).toInt)) ?_
            refine ev_loc f_X12_echoed (nx := 5) rfl rfl rfl rfl ?_
            refine ev_jmp f_X12_echoed (nx := 13) rfl rfl rfl ?_
            refine ev_retK1 f_X12_echoed rfl rfl rfl ?_
            refine ev_anyIE f_X12_alikeBy (nx := 51) rfl rfl rfl rfl (fun z33 e33 => ?_)
            refine ev_if f_X12_alikeBy (t1 := 54) (t2 := 58) rfl rfl rfl (fun h34 => ?_) (fun h34 => ?_)
            · have u35 : z33.toInt ≤ 0 := t_equ h34 (by decide : (0:Int32).toInt ≤ (0:Int))
              have l36 : 0 ≤ z33.toInt := t_eql h34 (by decide : (0:Int) ≤ (0:Int32).toInt)
              refine ev_ic f_X12_alikeBy (nx := 55) (v := 1) rfl (by decide) rfl ?_
              refine ev_jmp f_X12_alikeBy (nx := 59) rfl rfl rfl ?_
              refine ev_addC f_X12_alikeBy (nx := 60) (c := 1) (l := 1) (u := 43) rfl (by decide) l9_2 u9_2 rfl rfl (by decide) (by decide) rfl (fun z37 e37 l37 u37 => ?_)
              refine ev_loc f_X12_alikeBy (nx := 61) (lo' := [(2, .int z37), (4, .int y9_4), (3, .int y1_3), (0, .ref 69), (1, .int ar1)]) rfl rfl rfl rfl ?_
              refine ev_incR f_X12_alikeBy (nx := 64) (c := 1) (l := 2) (u := 6) rfl rfl (by decide) (by decide) l9_4 u15 rfl rfl (by decide) (by decide) rfl (fun z38 e38 l38 u38 => ?_)
              refine ev_jmp f_X12_alikeBy (nx := 19) rfl rfl rfl ?_
              refine ev_sub (lo := [(4, .int z38), (3, .int y1_3), (2, .int z37), (0, .ref 69), (1, .int ar1)]) rfl (t_sc rfl (t_sc rfl (t_sc rfl (t_sc rfl (t_sc rfl t_sn))))) ?_
              exact ih9 _ (by omega) (z38) (z37) (Int.le_trans (by decide : (1:Int) ≤ 2) l38) u38 (Int.le_trans (by decide : (0:Int) ≤ 1) l37) (by omega : z37.toInt ≤ (42:Int)) (by omega) (by
                                                            intro D hm hb
                                                            obtain ⟨g1, g2, g3⟩ := j9_1 D hm hb
                                                            have h0 : (gi 70 0).toInt = D 0 := hm.1.1.1
                                                            have ha : w23 = s_ec (s_so D y1_3.toNatClampNeg) ar1.toInt := by
                                                              have ka := t_clamp (i := y1_3) (by omega)
                                                              have kz := t_clamp (i := z19) (by omega)
                                                              have ki := t_clamp (i := z21) (by omega)
                                                              have hw := s_so_q (g := gi 70) (hm.2.1 y1_3.toNatClampNeg (by omega)) e22 (by omega) (by omega) q23.2
                                                              rw [show ar1.toInt = 0 by omega, s_ec_0]; exact hw
                                                            have hb2 : w32 = s_ec (s_so D y9_4.toNatClampNeg) ar1.toInt := by
                                                              have ka := t_clamp (i := y9_4) (by omega)
                                                              have kz := t_clamp (i := z28) (by omega)
                                                              have ki := t_clamp (i := z30) (by omega)
                                                              have hw := s_so_q (g := gi 70) (hm.2.1 y9_4.toNatClampNeg (by omega)) e31 (by omega) (by omega) q32.2
                                                              rw [show ar1.toInt = 0 by omega, s_ec_0]; exact hw
                                                            have hne := (t_le0 e33 h34)
                                                            rw [ha, hb2] at hne
                                                            exact ⟨s_ai_y g1 (by omega) (by omega) hne (by omega) (by omega), by omega, by omega⟩) rfl
            · have r39 : z33.toInt ≠ 0 := fun e => h34 (Int32.toInt_inj.mp (e.trans (by decide : (0:Int) = (0 : Int32).toInt)))
              refine ev_ic f_X12_alikeBy (nx := 59) (v := 0) rfl (by decide) rfl ?_
              refine ev_addC f_X12_alikeBy (nx := 60) (c := 0) (l := 0) (u := 42) rfl (by decide) l9_2 u9_2 rfl rfl (by decide) (by decide) rfl (fun z40 e40 l40 u40 => ?_)
              refine ev_loc f_X12_alikeBy (nx := 61) (lo' := [(2, .int z40), (4, .int y9_4), (3, .int y1_3), (0, .ref 69), (1, .int ar1)]) rfl rfl rfl rfl ?_
              refine ev_incR f_X12_alikeBy (nx := 64) (c := 1) (l := 2) (u := 6) rfl rfl (by decide) (by decide) l9_4 u15 rfl rfl (by decide) (by decide) rfl (fun z41 e41 l41 u41 => ?_)
              refine ev_jmp f_X12_alikeBy (nx := 19) rfl rfl rfl ?_
              refine ev_sub (lo := [(4, .int z41), (3, .int y1_3), (2, .int z40), (0, .ref 69), (1, .int ar1)]) rfl (t_sc rfl (t_sc rfl (t_sc rfl (t_sc rfl (t_sc rfl t_sn))))) ?_
              exact ih9 _ (by omega) (z41) (z40) (Int.le_trans (by decide : (1:Int) ≤ 2) l41) u41 l40 u40 (by omega) (by
                                                            intro D hm hb
                                                            obtain ⟨g1, g2, g3⟩ := j9_1 D hm hb
                                                            have h0 : (gi 70 0).toInt = D 0 := hm.1.1.1
                                                            have ha : w23 = s_ec (s_so D y1_3.toNatClampNeg) ar1.toInt := by
                                                              have ka := t_clamp (i := y1_3) (by omega)
                                                              have kz := t_clamp (i := z19) (by omega)
                                                              have ki := t_clamp (i := z21) (by omega)
                                                              have hw := s_so_q (g := gi 70) (hm.2.1 y1_3.toNatClampNeg (by omega)) e22 (by omega) (by omega) q23.2
                                                              rw [show ar1.toInt = 0 by omega, s_ec_0]; exact hw
                                                            have hb2 : w32 = s_ec (s_so D y9_4.toNatClampNeg) ar1.toInt := by
                                                              have ka := t_clamp (i := y9_4) (by omega)
                                                              have kz := t_clamp (i := z28) (by omega)
                                                              have ki := t_clamp (i := z30) (by omega)
                                                              have hw := s_so_q (g := gi 70) (hm.2.1 y9_4.toNatClampNeg (by omega)) e31 (by omega) (by omega) q32.2
                                                              rw [show ar1.toInt = 0 by omega, s_ec_0]; exact hw
                                                            have hne := (t_le1 e33 h34)
                                                            rw [ha, hb2] at hne
                                                            exact ⟨s_ai_n g1 (by omega) (by omega) hne (by omega) (by omega), by omega, by omega⟩) rfl
          · have r42 : ar1.toInt ≠ 0 := fun e => h24 (Int32.toInt_inj.mp (e.trans (by decide : (0:Int) = (0 : Int32).toInt)))
            have l43 : 1 ≤ ar1.toInt := t_nel h24 l_a1 rfl rfl
            refine ev_loc f_X12_echoed (nx := 9) rfl rfl rfl rfl ?_
            refine ev_loc f_X12_echoed (nx := 10) rfl rfl rfl rfl ?_
            refine ev_loc f_X12_echoed (nx := 11) rfl rfl rfl rfl ?_
            refine ev_anyLE f_X12_echoed (nx := 12) rfl rfl rfl rfl (fun z44 e44 => ?_)
            refine ev_anyLE f_X12_echoed (nx := 13) rfl rfl rfl rfl (fun z45 e45 => ?_)
            refine ev_retK1 f_X12_echoed rfl rfl rfl ?_
            refine ev_loc f_X12_alikeBy (nx := 41) rfl rfl rfl rfl ?_
            refine ev_loc f_X12_alikeBy (nx := 43) rfl rfl rfl rfl ?_
            refine ev_inV2 f_X12_alikeBy (nx := 46) (lo2 := [(0, .ref 69), (1, .int y9_4)]) rfl rfl rfl rfl f_X12_soundOf (hI.wf.s rfl) rfl rfl rfl rfl rfl ?_
            refine ev_loc f_X12_soundOf (nx := 1) rfl rfl rfl rfl ?_
            refine ev_bp f_X12_soundOf (nx := 3) (v := 10) rfl (by decide) rfl ?_
            refine ev_bp f_X12_soundOf (nx := 5) (v := 7) rfl (by decide) rfl ?_
            refine ev_loc f_X12_soundOf (nx := 6) rfl rfl rfl rfl ?_
            refine ev_mulL f_X12_soundOf (nx := 7) (c := 7) (l := 7) (u := 35) rfl (by decide) (by decide) l9_4 u15 rfl rfl (by decide) (by decide) rfl (fun z46 e46 l46 u46 => ?_)
            refine ev_addK f_X12_soundOf (nx := 8) (c := 10) (l := 17) (u := 45) rfl (by decide) l46 u46 rfl rfl (by decide) (by decide) rfl (fun z47 e47 l47 u47 => ?_)
            refine ev_ic f_X12_soundOf (nx := 9) (v := 1) rfl (by decide) rfl ?_
            refine ev_addC f_X12_soundOf (nx := 10) (c := 1) (l := 18) (u := 46) rfl (by decide) l47 u47 rfl rfl (by decide) (by decide) rfl (fun z48 e48 l48 u48 => ?_)
            refine ev_loc f_X12_soundOf (nx := 11) rfl rfl rfl rfl ?_
            refine ev_getR f_X12_soundOf (nx := 14) rfl (hI.wf.s rfl) rfl rfl (hI.wf.r rfl) rfl rfl ?_
            refine ev_bp f_X12_soundOf (nx := 16) (v := 10) rfl (by decide) rfl ?_
            refine ev_bp f_X12_soundOf (nx := 18) (v := 7) rfl (by decide) rfl ?_
            refine ev_loc f_X12_soundOf (nx := 19) rfl rfl rfl rfl ?_
            refine ev_mulL f_X12_soundOf (nx := 20) (c := 7) (l := 7) (u := 35) rfl (by decide) (by decide) l9_4 u15 rfl rfl (by decide) (by decide) rfl (fun z49 e49 l49 u49 => ?_)
            refine ev_addK f_X12_soundOf (nx := 21) (c := 10) (l := 17) (u := 45) rfl (by decide) l49 u49 rfl rfl (by decide) (by decide) rfl (fun z50 e50 l50 u50 => ?_)
            refine ev_ialdT f_X12_soundOf (nx := 22) rfl (hI.wf.s rfl) l50 (by decide) u50 (by decide) rfl (fun w51 e51 => ?_)
            obtain ⟨l51, u51⟩ := hI.abA (x := y9_4) e51 (by decide +kernel : t_aba 70 10 7 1 5 (-900) 6 = true) (by omega) (by omega) (by omega)
            refine ev_qL0 f_X12_soundOf (nx := 25) (r := []) rfl rfl rfl rfl rfl rfl rfl (c_n_beatsOf hI (z48) (Int.le_trans (by decide : (11:Int) ≤ 18) l48) (Int.le_trans u48 (by decide : (46:Int) ≤ 1752)) (w51) u51) rfl (fun w52 q52 => ?_)
            have q52 : (0 ≤ w52.toInt ∧ w52.toInt < 16777216) ∧ (0 ≤ w51.toInt → w52 = (s_bt (fun t => gi 70 (z48.toNatClampNeg + t)) w51.toNatClampNeg).1) := q52
            refine ev_retK1 f_X12_soundOf rfl rfl rfl ?_
            refine ev_loc f_X12_alikeBy (nx := 47) rfl rfl rfl rfl ?_
            refine ev_inS2 f_X12_alikeBy (nx := 50) (lo2 := [(0, .long w52), (2, .int ar1)]) rfl rfl rfl rfl f_X12_echoed rfl rfl rfl rfl ?_
            refine ev_loc f_X12_echoed (nx := 1) rfl rfl rfl rfl ?_
            refine ev_f f_X12_echoed (t1 := 4) (t2 := 8) rfl rfl rfl (t_neT' (by decide : (0:Int32).toInt ≤ (0:Int)) l43 (by decide)) ?_
            refine ev_loc f_X12_echoed (nx := 9) rfl rfl rfl rfl ?_
            refine ev_loc f_X12_echoed (nx := 10) rfl rfl rfl rfl ?_
            refine ev_loc f_X12_echoed (nx := 11) rfl rfl rfl rfl ?_
            refine ev_anyLE f_X12_echoed (nx := 12) rfl rfl rfl rfl (fun z53 e53 => ?_)
            refine ev_anyLE f_X12_echoed (nx := 13) rfl rfl rfl rfl (fun z54 e54 => ?_)
            refine ev_retK1 f_X12_echoed rfl rfl rfl ?_
            refine ev_anyIE f_X12_alikeBy (nx := 51) rfl rfl rfl rfl (fun z55 e55 => ?_)
            refine ev_if f_X12_alikeBy (t1 := 54) (t2 := 58) rfl rfl rfl (fun h56 => ?_) (fun h56 => ?_)
            · have u57 : z55.toInt ≤ 0 := t_equ h56 (by decide : (0:Int32).toInt ≤ (0:Int))
              have l58 : 0 ≤ z55.toInt := t_eql h56 (by decide : (0:Int) ≤ (0:Int32).toInt)
              refine ev_ic f_X12_alikeBy (nx := 55) (v := 1) rfl (by decide) rfl ?_
              refine ev_jmp f_X12_alikeBy (nx := 59) rfl rfl rfl ?_
              refine ev_addC f_X12_alikeBy (nx := 60) (c := 1) (l := 1) (u := 43) rfl (by decide) l9_2 u9_2 rfl rfl (by decide) (by decide) rfl (fun z59 e59 l59 u59 => ?_)
              refine ev_loc f_X12_alikeBy (nx := 61) (lo' := [(2, .int z59), (4, .int y9_4), (3, .int y1_3), (0, .ref 69), (1, .int ar1)]) rfl rfl rfl rfl ?_
              refine ev_incR f_X12_alikeBy (nx := 64) (c := 1) (l := 2) (u := 6) rfl rfl (by decide) (by decide) l9_4 u15 rfl rfl (by decide) (by decide) rfl (fun z60 e60 l60 u60 => ?_)
              refine ev_jmp f_X12_alikeBy (nx := 19) rfl rfl rfl ?_
              refine ev_sub (lo := [(4, .int z60), (3, .int y1_3), (2, .int z59), (0, .ref 69), (1, .int ar1)]) rfl (t_sc rfl (t_sc rfl (t_sc rfl (t_sc rfl (t_sc rfl t_sn))))) ?_
              exact ih9 _ (by omega) (z60) (z59) (Int.le_trans (by decide : (1:Int) ≤ 2) l60) u60 (Int.le_trans (by decide : (0:Int) ≤ 1) l59) (by omega : z59.toInt ≤ (42:Int)) (by omega) (by
                                                            intro D hm hb
                                                            obtain ⟨g1, g2, g3⟩ := j9_1 D hm hb
                                                            have h0 : (gi 70 0).toInt = D 0 := hm.1.1.1
                                                            have ha : z45 = s_ec (s_so D y1_3.toNatClampNeg) ar1.toInt := by
                                                              have ka := t_clamp (i := y1_3) (by omega)
                                                              have kz := t_clamp (i := z19) (by omega)
                                                              have ki := t_clamp (i := z21) (by omega)
                                                              have hw := s_so_q (g := gi 70) (hm.2.1 y1_3.toNatClampNeg (by omega)) e22 (by omega) (by omega) q23.2
                                                              rw [← hw]
                                                              exact s_ec_e e44 e45 rfl
                                                            have hb2 : z54 = s_ec (s_so D y9_4.toNatClampNeg) ar1.toInt := by
                                                              have ka := t_clamp (i := y9_4) (by omega)
                                                              have kz := t_clamp (i := z48) (by omega)
                                                              have ki := t_clamp (i := z50) (by omega)
                                                              have hw := s_so_q (g := gi 70) (hm.2.1 y9_4.toNatClampNeg (by omega)) e51 (by omega) (by omega) q52.2
                                                              rw [← hw]
                                                              exact s_ec_e e53 e54 rfl
                                                            have hne := (t_le0 e55 h56)
                                                            rw [ha, hb2] at hne
                                                            exact ⟨s_ai_y g1 (by omega) (by omega) hne (by omega) (by omega), by omega, by omega⟩) rfl
            · have r61 : z55.toInt ≠ 0 := fun e => h56 (Int32.toInt_inj.mp (e.trans (by decide : (0:Int) = (0 : Int32).toInt)))
              refine ev_ic f_X12_alikeBy (nx := 59) (v := 0) rfl (by decide) rfl ?_
              refine ev_addC f_X12_alikeBy (nx := 60) (c := 0) (l := 0) (u := 42) rfl (by decide) l9_2 u9_2 rfl rfl (by decide) (by decide) rfl (fun z62 e62 l62 u62 => ?_)
              refine ev_loc f_X12_alikeBy (nx := 61) (lo' := [(2, .int z62), (4, .int y9_4), (3, .int y1_3), (0, .ref 69), (1, .int ar1)]) rfl rfl rfl rfl ?_
              refine ev_incR f_X12_alikeBy (nx := 64) (c := 1) (l := 2) (u := 6) rfl rfl (by decide) (by decide) l9_4 u15 rfl rfl (by decide) (by decide) rfl (fun z63 e63 l63 u63 => ?_)
              refine ev_jmp f_X12_alikeBy (nx := 19) rfl rfl rfl ?_
              refine ev_sub (lo := [(4, .int z63), (3, .int y1_3), (2, .int z62), (0, .ref 69), (1, .int ar1)]) rfl (t_sc rfl (t_sc rfl (t_sc rfl (t_sc rfl (t_sc rfl t_sn))))) ?_
              exact ih9 _ (by omega) (z63) (z62) (Int.le_trans (by decide : (1:Int) ≤ 2) l63) u63 l62 u62 (by omega) (by
                                                            intro D hm hb
                                                            obtain ⟨g1, g2, g3⟩ := j9_1 D hm hb
                                                            have h0 : (gi 70 0).toInt = D 0 := hm.1.1.1
                                                            have ha : z45 = s_ec (s_so D y1_3.toNatClampNeg) ar1.toInt := by
                                                              have ka := t_clamp (i := y1_3) (by omega)
                                                              have kz := t_clamp (i := z19) (by omega)
                                                              have ki := t_clamp (i := z21) (by omega)
                                                              have hw := s_so_q (g := gi 70) (hm.2.1 y1_3.toNatClampNeg (by omega)) e22 (by omega) (by omega) q23.2
                                                              rw [← hw]
                                                              exact s_ec_e e44 e45 rfl
                                                            have hb2 : z54 = s_ec (s_so D y9_4.toNatClampNeg) ar1.toInt := by
                                                              have ka := t_clamp (i := y9_4) (by omega)
                                                              have kz := t_clamp (i := z48) (by omega)
                                                              have ki := t_clamp (i := z50) (by omega)
                                                              have hw := s_so_q (g := gi 70) (hm.2.1 y9_4.toNatClampNeg (by omega)) e51 (by omega) (by omega) q52.2
                                                              rw [← hw]
                                                              exact s_ec_e e53 e54 rfl
                                                            have hne := (t_le1 e55 h56)
                                                            rw [ha, hb2] at hne
                                                            exact ⟨s_ai_n g1 (by omega) (by omega) hne (by omega) (by omega), by omega, by omega⟩) rfl
      refine ev_sub (lo := [(4, .int z8), (3, .int y1_3), (2, .int y1_2), (0, .ref 69), (1, .int ar1)]) rfl (t_sc rfl (t_sc rfl (t_sc rfl (t_sc rfl (t_sc rfl t_sn))))) ?_
      exact L9 _ (z8) (y1_2) l8 u8 l1_2 (Int.le_trans u1_2 (by decide : (36:Int) ≤ 42)) (by omega) (by
                                                            intro D hm hb
                                                            obtain ⟨g1, g2⟩ := j1_1 D hm hb
                                                            have h0 : (gi 70 0).toInt = D 0 := hm.1.1.1
                                                            refine ⟨s_ai_b g1 (by omega) (by omega), by omega, by omega⟩) rfl
  refine ev_sub (lo := [(3, .int 0), (2, .int 0), (0, .ref 69), (1, .int ar1)]) rfl (t_sc rfl (t_sc rfl (t_sc rfl (t_sc rfl t_sn)))) ?_
  exact L1 _ (0) (0) (by decide : (0:Int) ≤ (0:Int32).toInt) (Int.le_trans (by decide : (0:Int32).toInt ≤ (0:Int)) (by decide : (0:Int) ≤ 6)) (by decide : (0:Int) ≤ (0:Int32).toInt) (Int.le_trans (by decide : (0:Int32).toInt ≤ (0:Int)) (by decide : (0:Int) ≤ 36)) (by have kf64 : (0 : Int32).toInt = 0 := (by decide); omega) (fun D hm hb => ⟨rfl, by have z0 : (0 : Int32).toInt = 0 := rfl; have := hb.1.1; omega⟩) rfl
noncomputable def wl_d_alike : List (Nat × Nat) := [(0, 0)]
noncomputable def Q_d_alike (gi : Nat → Nat → Int32) (gl : Nat → Nat → Int64) (gr : Nat → Nat → Value) : Int32 → (Nat → Nat → Int32) → (Nat → Nat → Int64) → (Nat → Nat → Value) → Prop := fun (v : Int32) (gi2 : Nat → Nat → Int32) (gl2 : Nat → Nat → Int64) (gr2 : Nat → Nat → Value) => ∀ (u : Nat) (D : s_D), gr 0 6 = .ref u → t_VL gr u → t_CV gi gl u D → t_Cb D → v.toInt = s_al D (D 7)
theorem c_d_alike {X : x_Ext} {d : Nat} {sh : List (Nat ⊕ (Nat × Nat))} {gi : Nat → Nat → Int32} {gl : Nat → Nat → Int64} {gr : Nat → Nat → Value} (hI : t_I sh gi gr) : x_Me X (d + 3) n_X11_alike [.ref 0] (sh, gi, gl, gr) (t_PI wl_d_alike sh gi gl gr 0 36 (Q_d_alike gi gl gr)) := by
  have hX : t_X wl_d_alike sh gi gl gr gi gl gr := t_X.rf
  refine me_i f_X11_alike (hI.wf.s rfl) rfl rfl rfl ?_
  refine ev_loc f_X11_alike (nx := 1) rfl rfl rfl rfl ?_
  refine ev_loc f_X11_alike (nx := 2) rfl rfl rfl rfl ?_
  obtain ⟨a1, e1, p1⟩ := hI.2.2.2.1.1
  refine ev_getR f_X11_alike (nx := 5) rfl (hI.wf.s rfl) rfl rfl e1 rfl rfl ?_
  refine ev_loc f_X11_alike (nx := 6) rfl rfl rfl rfl ?_
  refine ev_getR f_X11_alike (nx := 9) (v := .ref a1) rfl (hI.wf.s rfl) rfl rfl e1 rfl rfl ?_
  refine ev_getI f_X11_alike (nx := 12) rfl p1.1 rfl rfl rfl ?_
  refine ev_qI0 f_X11_alike (nx := 15) (r := [.ref 0]) rfl rfl rfl rfl rfl rfl rfl (c_d_couplesAlike hI (a1) p1 ((gi a1 6))) rfl (fun w2 l2 u2 q2 => ?_)
  have q2 : ∀ D : s_D, t_VL gr a1 → t_CV gi gl a1 D → t_Cb D → w2.toInt = s_al D (gi a1 6).toInt := q2
  refine ev_inV2 f_X11_alike (nx := 18) (lo2 := [(0, .ref 0), (1, .int w2)]) rfl rfl rfl rfl f_X11_answer (hI.wf.s rfl) rfl rfl rfl rfl rfl ?_
  refine ev_loc f_X11_answer (nx := 1) rfl rfl rfl rfl ?_
  refine ev_ic f_X11_answer (nx := 2) (v := 0) rfl (by decide) rfl ?_
  refine ev_putIT f_X11_answer (nx := 5) rfl (hI.wf.s rfl) rfl rfl rfl (hI.put0 (hI.wf.s rfl) rfl rfl) (hX.upI rfl) (fun g3 e3 hI hX => ?_)
  refine ev_loc f_X11_answer (nx := 6) rfl rfl rfl rfl ?_
  refine ev_retK1 f_X11_answer rfl rfl rfl ?_
  exact ev_ret f_X11_alike rfl rfl rfl ⟨_, _, _, rfl, hI, hX, ⟨_, rfl, l2, u2, (show ∀ (u : Nat) (D : s_D), gr 0 6 = .ref u → t_VL gr u → t_CV gi gl u D → t_Cb D → w2.toInt = s_al D (D 7) from (by
                                                            intro u D hu hl hc hb
                                                            have ha : a1 = u := Value.ref.inj (e1.symm.trans hu)
                                                            subst ha
                                                            have hq := q2 D hl hc hb
                                                            rw [hc.2.1.2.2.2] at hq
                                                            exact hq))⟩⟩
noncomputable def wl_e_alike : List (Nat × Nat) := [(69, 2)]
noncomputable def Q_e_alike (gi : Nat → Nat → Int32) (gl : Nat → Nat → Int64) (gr : Nat → Nat → Value) : Int32 → (Nat → Nat → Int32) → (Nat → Nat → Int64) → (Nat → Nat → Value) → Prop := fun (v : Int32) (gi2 : Nat → Nat → Int32) (gl2 : Nat → Nat → Int64) (gr2 : Nat → Nat → Value) => ∀ D : s_D, t_ME 0 gi D → t_Cb D → v.toInt = s_al D (D 7)
theorem c_e_alike {X : x_Ext} {d : Nat} {sh : List (Nat ⊕ (Nat × Nat))} {gi : Nat → Nat → Int32} {gl : Nat → Nat → Int64} {gr : Nat → Nat → Value} (hI : t_I sh gi gr) : x_Me X (d + 4) n_X12_alike [.ref 69] (sh, gi, gl, gr) (t_PI wl_e_alike sh gi gl gr 0 36 (Q_e_alike gi gl gr)) := by
  have hX : t_X wl_e_alike sh gi gl gr gi gl gr := t_X.rf
  refine me_i f_X12_alike (hI.wf.s rfl) rfl rfl rfl ?_
  refine ev_loc f_X12_alike (nx := 1) rfl rfl rfl rfl ?_
  refine ev_loc f_X12_alike (nx := 2) rfl rfl rfl rfl ?_
  refine ev_loc f_X12_alike (nx := 3) rfl rfl rfl rfl ?_
  refine ev_getR f_X12_alike (nx := 6) rfl (hI.wf.s rfl) rfl rfl (hI.wf.r rfl) rfl rfl ?_
  refine ev_bp f_X12_alike (nx := 8) (v := 7) rfl (by decide) rfl ?_
  obtain ⟨l1, u1⟩ := hI.ab (by decide +kernel : t_abr 70 7 7 0 9 = true) (Nat.le_refl _) (Nat.le_refl _)
  refine ev_ialdv f_X12_alike (nx := 9) (w := (gi 70 7)) rfl (hI.wf.s rfl) (by decide) (rfl : (7 : Int32).toNatClampNeg = 7) (by decide) rfl rfl ?_
  refine ev_qI0 f_X12_alike (nx := 12) (r := [.ref 69]) rfl rfl rfl rfl rfl rfl rfl (c_n_alikeBy hI ((gi 70 7)) l1 u1) rfl (fun w2 l2 u2 q2 => ?_)
  have q2 : ∀ D : s_D, t_ME 0 gi D → t_Cb D → w2.toInt = s_al D (gi 70 7).toInt := q2
  refine ev_inV2 f_X12_alike (nx := 15) (lo2 := [(0, .ref 69), (1, .int w2)]) rfl rfl rfl rfl f_X12_gives (hI.wf.s rfl) rfl rfl rfl rfl rfl ?_
  refine ev_loc f_X12_gives (nx := 1) rfl rfl rfl rfl ?_
  refine ev_ic f_X12_gives (nx := 2) (v := 0) rfl (by decide) rfl ?_
  refine ev_putIT f_X12_gives (nx := 5) rfl (hI.wf.s rfl) rfl rfl rfl (hI.put0 (hI.wf.s rfl) rfl rfl) (hX.upI rfl) (fun g3 e3 hI hX => ?_)
  refine ev_loc f_X12_gives (nx := 6) rfl rfl rfl rfl ?_
  refine ev_retK1 f_X12_gives rfl rfl rfl ?_
  exact ev_ret f_X12_alike rfl rfl rfl ⟨_, _, _, rfl, hI, hX, ⟨_, rfl, l2, u2, (show ∀ D : s_D, t_ME 0 gi D → t_Cb D → w2.toInt = s_al D (D 7) from (by
                                                            intro D hm hb
                                                            have hq := q2 D hm hb
                                                            have h7 : (gi 70 7).toInt = D 7 := hm.1.2.2.2.2
                                                            rw [h7] at hq
                                                            exact hq))⟩⟩
noncomputable def wl_d_clearEcho : List (Nat × Nat) := [(0, 0)]
noncomputable def Q_d_clearEcho (gi : Nat → Nat → Int32) (gl : Nat → Nat → Int64) (gr : Nat → Nat → Value) : Int32 → (Nat → Nat → Int32) → (Nat → Nat → Int64) → (Nat → Nat → Value) → Prop := fun (v : Int32) (gi2 : Nat → Nat → Int32) (gl2 : Nat → Nat → Int64) (gr2 : Nat → Nat → Value) => ∀ (u : Nat) (D : s_D), gr 0 6 = .ref u → t_VL gr u → t_CV gi gl u D → t_Cb D → v.toInt = s_ce D 10 0
theorem c_d_clearEcho {X : x_Ext} {d : Nat} {sh : List (Nat ⊕ (Nat × Nat))} {gi : Nat → Nat → Int32} {gl : Nat → Nat → Int64} {gr : Nat → Nat → Value} (hI : t_I sh gi gr) : x_Me X (d + 3) n_X11_clearEcho [.ref 0] (sh, gi, gl, gr) (t_PI wl_d_clearEcho sh gi gl gr (-1) 9 (Q_d_clearEcho gi gl gr)) := by
  have hX : t_X wl_d_clearEcho sh gi gl gr gi gl gr := t_X.rf
  refine me_i f_X11_clearEcho (hI.wf.s rfl) rfl rfl rfl ?_
  refine ev_ic f_X11_clearEcho (nx := 1) (v := 0) rfl (by decide) rfl ?_
  refine ev_loc f_X11_clearEcho (nx := 2) (lo' := [(1, .int 0), (0, .ref 0)]) rfl rfl rfl rfl ?_
  have L1 : ∀ (m1 : Nat) (y1_1 : Int32), 0 ≤ y1_1.toInt → y1_1.toInt ≤ 10 → (∀ (u : Nat) (D : s_D), gr 0 6 = .ref u → t_VL gr u → t_CV gi gl u D → t_Cb D → s_ce D 10 0 = s_ce D (10 - y1_1.toInt).toNat y1_1.toInt) → (10 - y1_1.toInt).toNat = m1 → x_Ev X (d + 3) n_X11_clearEcho 2 [(1, .int y1_1), (0, .ref 0)] [] (sh, gi, gl, gr) (t_PI wl_d_clearEcho sh gi gl gr (-1) 9 (Q_d_clearEcho gi gl gr)) := by
    intro m1
    induction m1 using Nat.strongRecOn with
    | _ m1 ih1 =>
    intro y1_1 l1_1 u1_1 j1_0 hm1
    refine ev_loc f_X11_clearEcho (nx := 3) rfl rfl rfl rfl ?_
    refine ev_bp f_X11_clearEcho (nx := 5) (v := 9) rfl (by decide) rfl ?_
    refine ev_if f_X11_clearEcho (t1 := 31) (t2 := 8) rfl rfl rfl (fun h2 => ?_) (fun h2 => ?_)
    · have l3 : 10 ≤ y1_1.toInt := t_ltl h2 (by decide : (9:Int) ≤ (9:Int32).toInt) rfl
      refine ev_loc f_X11_clearEcho (nx := 32) rfl rfl rfl rfl ?_
      refine ev_bp f_X11_clearEcho (nx := 34) (v := 6) rfl (by decide) rfl ?_
      refine ev_inV2 f_X11_clearEcho (nx := 37) (lo2 := [(0, .ref 0), (1, .int 6)]) rfl rfl rfl rfl f_X11_refuse (hI.wf.s rfl) rfl rfl rfl rfl rfl ?_
      refine ev_loc f_X11_refuse (nx := 1) rfl rfl rfl rfl ?_
      refine ev_loc f_X11_refuse (nx := 2) rfl rfl rfl rfl ?_
      refine ev_putIT f_X11_refuse (nx := 5) rfl (hI.wf.s rfl) rfl rfl rfl (hI.put0 (hI.wf.s rfl) rfl rfl) (hX.upI rfl) (fun g4 e4 hI hX => ?_)
      refine ev_ic f_X11_refuse (nx := 6) (v := -1) rfl (by decide) rfl ?_
      refine ev_retK1 f_X11_refuse rfl rfl rfl ?_
      exact ev_ret f_X11_clearEcho rfl rfl rfl ⟨_, _, _, rfl, hI, hX, ⟨_, rfl, (by decide : ((-1):Int) ≤ ((-1):Int32).toInt), (Int.le_trans (by decide : ((-1):Int32).toInt ≤ ((-1):Int)) (by decide : ((-1):Int) ≤ 9)), (show ∀ (u : Nat) (D : s_D), gr 0 6 = .ref u → t_VL gr u → t_CV gi gl u D → t_Cb D → ((-1) : Int) = s_ce D 10 0 from (by
                                                            intro u D hu hl hc hb
                                                            have g1 := j1_0 u D hu hl hc hb
                                                            exact (s_ce_e g1 (by omega)).symm))⟩⟩
    · have u5 : y1_1.toInt ≤ 9 := t_leu (t_nlt h2) (by decide : (9:Int32).toInt ≤ (9:Int))
      refine ev_loc f_X11_clearEcho (nx := 9) rfl rfl rfl rfl ?_
      obtain ⟨a6, e6, p6⟩ := hI.2.2.2.1.1
      refine ev_getR f_X11_clearEcho (nx := 12) rfl (hI.wf.s rfl) rfl rfl e6 rfl rfl ?_
      refine ev_loc f_X11_clearEcho (nx := 13) rfl rfl rfl rfl ?_
      refine ev_qI0 f_X11_clearEcho (nx := 16) (r := []) rfl rfl rfl rfl rfl rfl rfl (c_d_couplesAlike hI (a6) p6 (y1_1)) rfl (fun w7 l7 u7 q7 => ?_)
      have q7 : ∀ D : s_D, t_VL gr a6 → t_CV gi gl a6 D → t_Cb D → w7.toInt = s_al D y1_1.toInt := q7
      refine ev_if f_X11_clearEcho (t1 := 19) (t2 := 25) rfl rfl rfl (fun h8 => ?_) (fun h8 => ?_)
      · have u9 : w7.toInt ≤ 0 := t_equ h8 (by decide : (0:Int32).toInt ≤ (0:Int))
        refine ev_loc f_X11_clearEcho (nx := 20) rfl rfl rfl rfl ?_
        refine ev_loc f_X11_clearEcho (nx := 21) rfl rfl rfl rfl ?_
        refine ev_inV2 f_X11_clearEcho (nx := 24) (lo2 := [(0, .ref 0), (1, .int y1_1)]) rfl rfl rfl rfl f_X11_answer (hI.wf.s rfl) rfl rfl rfl rfl rfl ?_
        refine ev_loc f_X11_answer (nx := 1) rfl rfl rfl rfl ?_
        refine ev_ic f_X11_answer (nx := 2) (v := 0) rfl (by decide) rfl ?_
        refine ev_putIT f_X11_answer (nx := 5) rfl (hI.wf.s rfl) rfl rfl rfl (hI.put0 (hI.wf.s rfl) rfl rfl) (hX.upI rfl) (fun g10 e10 hI hX => ?_)
        refine ev_loc f_X11_answer (nx := 6) rfl rfl rfl rfl ?_
        refine ev_retK1 f_X11_answer rfl rfl rfl ?_
        exact ev_ret f_X11_clearEcho rfl rfl rfl ⟨_, _, _, rfl, hI, hX, ⟨_, rfl, (Int.le_trans (by decide : ((-1):Int) ≤ 0) l1_1), u5, (show ∀ (u : Nat) (D : s_D), gr 0 6 = .ref u → t_VL gr u → t_CV gi gl u D → t_Cb D → y1_1.toInt = s_ce D 10 0 from (by
                                                            intro u D hu hl hc hb
                                                            have g1 := j1_0 u D hu hl hc hb
                                                            have ha : a6 = u := Value.ref.inj (e6.symm.trans hu)
                                                            subst ha
                                                            have hq := q7 D hl hc hb
                                                            exact (s_ce_f g1 (by omega) (by omega)).symm))⟩⟩
      · have r11 : w7.toInt ≠ 0 := fun e => h8 (Int32.toInt_inj.mp (e.trans (by decide : (0:Int) = (0 : Int32).toInt)))
        have l12 : 1 ≤ w7.toInt := t_nel h8 l7 rfl rfl
        refine ev_incR f_X11_clearEcho (nx := 28) (c := 1) (l := 1) (u := 10) rfl rfl (by decide) (by decide) l1_1 u5 rfl rfl (by decide) (by decide) rfl (fun z13 e13 l13 u13 => ?_)
        refine ev_jmp f_X11_clearEcho (nx := 2) rfl rfl rfl ?_
        refine ev_sub (lo := [(1, .int z13), (0, .ref 0)]) rfl (t_sc rfl (t_sc rfl t_sn)) ?_
        exact ih1 _ (by omega) (z13) (Int.le_trans (by decide : (0:Int) ≤ 1) l13) u13 (by
                                                            intro u D hu hl hc hb
                                                            have g1 := j1_0 u D hu hl hc hb
                                                            have ha : a6 = u := Value.ref.inj (e6.symm.trans hu)
                                                            subst ha
                                                            have hq := q7 D hl hc hb
                                                            exact s_ce_s g1 (by omega) (by omega) (by omega)) rfl
  refine ev_sub (lo := [(1, .int 0), (0, .ref 0)]) rfl (t_sc rfl (t_sc rfl t_sn)) ?_
  exact L1 _ (0) (by decide : (0:Int) ≤ (0:Int32).toInt) (Int.le_trans (by decide : (0:Int32).toInt ≤ (0:Int)) (by decide : (0:Int) ≤ 10)) (fun u D hu hl hc hb => rfl) rfl
noncomputable def wl_e_clearEcho : List (Nat × Nat) := [(69, 2)]
noncomputable def Q_e_clearEcho (gi : Nat → Nat → Int32) (gl : Nat → Nat → Int64) (gr : Nat → Nat → Value) : Int32 → (Nat → Nat → Int32) → (Nat → Nat → Int64) → (Nat → Nat → Value) → Prop := fun (v : Int32) (gi2 : Nat → Nat → Int32) (gl2 : Nat → Nat → Int64) (gr2 : Nat → Nat → Value) => ∀ D : s_D, t_ME 0 gi D → t_Cb D → v.toInt = s_ce D 10 0
theorem c_e_clearEcho {X : x_Ext} {d : Nat} {sh : List (Nat ⊕ (Nat × Nat))} {gi : Nat → Nat → Int32} {gl : Nat → Nat → Int64} {gr : Nat → Nat → Value} (hI : t_I sh gi gr) : x_Me X (d + 4) n_X12_clearEcho [.ref 69] (sh, gi, gl, gr) (t_PI wl_e_clearEcho sh gi gl gr (-1) 9 (Q_e_clearEcho gi gl gr)) := by
  have hX : t_X wl_e_clearEcho sh gi gl gr gi gl gr := t_X.rf
  refine me_i f_X12_clearEcho (hI.wf.s rfl) rfl rfl rfl ?_
  refine ev_ic f_X12_clearEcho (nx := 1) (v := 0) rfl (by decide) rfl ?_
  refine ev_loc f_X12_clearEcho (nx := 2) (lo' := [(1, .int 0), (0, .ref 69)]) rfl rfl rfl rfl ?_
  have L1 : ∀ (m1 : Nat) (y1_1 : Int32), 0 ≤ y1_1.toInt → y1_1.toInt ≤ 10 → (∀ D : s_D, t_ME 0 gi D → t_Cb D → s_ce D 10 0 = s_ce D (10 - y1_1.toInt).toNat y1_1.toInt) → (10 - y1_1.toInt).toNat = m1 → x_Ev X (d + 4) n_X12_clearEcho 2 [(1, .int y1_1), (0, .ref 69)] [] (sh, gi, gl, gr) (t_PI wl_e_clearEcho sh gi gl gr (-1) 9 (Q_e_clearEcho gi gl gr)) := by
    intro m1
    induction m1 using Nat.strongRecOn with
    | _ m1 ih1 =>
    intro y1_1 l1_1 u1_1 j1_0 hm1
    refine ev_loc f_X12_clearEcho (nx := 3) rfl rfl rfl rfl ?_
    refine ev_bp f_X12_clearEcho (nx := 5) (v := 10) rfl (by decide) rfl ?_
    refine ev_if f_X12_clearEcho (t1 := 28) (t2 := 8) rfl rfl rfl (fun h2 => ?_) (fun h2 => ?_)
    · have l3 : 10 ≤ y1_1.toInt := t_lel h2 (by decide : (10:Int) ≤ (10:Int32).toInt)
      refine ev_loc f_X12_clearEcho (nx := 29) rfl rfl rfl rfl ?_
      refine ev_bp f_X12_clearEcho (nx := 31) (v := 6) rfl (by decide) rfl ?_
      refine ev_inV2 f_X12_clearEcho (nx := 34) (lo2 := [(0, .ref 69), (1, .int 6)]) rfl rfl rfl rfl f_X12_refuse (hI.wf.s rfl) rfl rfl rfl rfl rfl ?_
      refine ev_loc f_X12_refuse (nx := 1) rfl rfl rfl rfl ?_
      refine ev_loc f_X12_refuse (nx := 2) rfl rfl rfl rfl ?_
      refine ev_putIT f_X12_refuse (nx := 5) rfl (hI.wf.s rfl) rfl rfl rfl (hI.put0 (hI.wf.s rfl) rfl rfl) (hX.upI rfl) (fun g4 e4 hI hX => ?_)
      refine ev_ic f_X12_refuse (nx := 6) (v := -1) rfl (by decide) rfl ?_
      refine ev_retK1 f_X12_refuse rfl rfl rfl ?_
      exact ev_ret f_X12_clearEcho rfl rfl rfl ⟨_, _, _, rfl, hI, hX, ⟨_, rfl, (by decide : ((-1):Int) ≤ ((-1):Int32).toInt), (Int.le_trans (by decide : ((-1):Int32).toInt ≤ ((-1):Int)) (by decide : ((-1):Int) ≤ 9)), (show ∀ D : s_D, t_ME 0 gi D → t_Cb D → ((-1) : Int) = s_ce D 10 0 from (by
                                                            intro D hm hb
                                                            have g1 := j1_0 D hm hb
                                                            exact (s_ce_e g1 (by omega)).symm))⟩⟩
    · have u5 : y1_1.toInt ≤ 9 := t_ltu (t_nle h2) (by decide : (10:Int32).toInt ≤ (10:Int)) rfl
      refine ev_loc f_X12_clearEcho (nx := 9) rfl rfl rfl rfl ?_
      refine ev_loc f_X12_clearEcho (nx := 10) rfl rfl rfl rfl ?_
      refine ev_qI0 f_X12_clearEcho (nx := 13) (r := []) rfl rfl rfl rfl rfl rfl rfl (c_n_alikeBy hI (y1_1) l1_1 u5) rfl (fun w6 l6 u6 q6 => ?_)
      have q6 : ∀ D : s_D, t_ME 0 gi D → t_Cb D → w6.toInt = s_al D y1_1.toInt := q6
      refine ev_if f_X12_clearEcho (t1 := 16) (t2 := 22) rfl rfl rfl (fun h7 => ?_) (fun h7 => ?_)
      · have u8 : w6.toInt ≤ 0 := t_equ h7 (by decide : (0:Int32).toInt ≤ (0:Int))
        refine ev_loc f_X12_clearEcho (nx := 17) rfl rfl rfl rfl ?_
        refine ev_loc f_X12_clearEcho (nx := 18) rfl rfl rfl rfl ?_
        refine ev_inV2 f_X12_clearEcho (nx := 21) (lo2 := [(0, .ref 69), (1, .int y1_1)]) rfl rfl rfl rfl f_X12_gives (hI.wf.s rfl) rfl rfl rfl rfl rfl ?_
        refine ev_loc f_X12_gives (nx := 1) rfl rfl rfl rfl ?_
        refine ev_ic f_X12_gives (nx := 2) (v := 0) rfl (by decide) rfl ?_
        refine ev_putIT f_X12_gives (nx := 5) rfl (hI.wf.s rfl) rfl rfl rfl (hI.put0 (hI.wf.s rfl) rfl rfl) (hX.upI rfl) (fun g9 e9 hI hX => ?_)
        refine ev_loc f_X12_gives (nx := 6) rfl rfl rfl rfl ?_
        refine ev_retK1 f_X12_gives rfl rfl rfl ?_
        exact ev_ret f_X12_clearEcho rfl rfl rfl ⟨_, _, _, rfl, hI, hX, ⟨_, rfl, (Int.le_trans (by decide : ((-1):Int) ≤ 0) l1_1), u5, (show ∀ D : s_D, t_ME 0 gi D → t_Cb D → y1_1.toInt = s_ce D 10 0 from (by
                                                            intro D hm hb
                                                            have g1 := j1_0 D hm hb
                                                            have hq := q6 D hm hb
                                                            exact (s_ce_f g1 (by omega) (by omega)).symm))⟩⟩
      · have r10 : w6.toInt ≠ 0 := fun e => h7 (Int32.toInt_inj.mp (e.trans (by decide : (0:Int) = (0 : Int32).toInt)))
        have l11 : 1 ≤ w6.toInt := t_nel h7 l6 rfl rfl
        refine ev_incR f_X12_clearEcho (nx := 25) (c := 1) (l := 1) (u := 10) rfl rfl (by decide) (by decide) l1_1 u5 rfl rfl (by decide) (by decide) rfl (fun z12 e12 l12 u12 => ?_)
        refine ev_jmp f_X12_clearEcho (nx := 2) rfl rfl rfl ?_
        refine ev_sub (lo := [(1, .int z12), (0, .ref 69)]) rfl (t_sc rfl (t_sc rfl t_sn)) ?_
        exact ih1 _ (by omega) (z12) (Int.le_trans (by decide : (0:Int) ≤ 1) l12) u12 (by
                                                            intro D hm hb
                                                            have g1 := j1_0 D hm hb
                                                            have hq := q6 D hm hb
                                                            exact s_ce_s g1 (by omega) (by omega) (by omega)) rfl
  refine ev_sub (lo := [(1, .int 0), (0, .ref 69)]) rfl (t_sc rfl (t_sc rfl t_sn)) ?_
  exact L1 _ (0) (by decide : (0:Int) ≤ (0:Int32).toInt) (Int.le_trans (by decide : (0:Int32).toInt ≤ (0:Int)) (by decide : (0:Int) ≤ 10)) (fun D hm hb => rfl) rfl
