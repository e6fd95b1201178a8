/-! ===== printed by riv.py: dearest: the other side ===== -/
noncomputable def wl_l_costsBy : List (Nat × Nat) := []
noncomputable def Q_l_costsBy (gi : Nat → Nat → Int32) (gl : Nat → Nat → Int64) (gr : Nat → Nat → Value) (ar1 : Int32) : Int32 → (Nat → Nat → Int32) → (Nat → Nat → Int64) → (Nat → Nat → Value) → Prop := fun (v : Int32) (gi2 : Nat → Nat → Int32) (gl2 : Nat → Nat → Int64) (gr2 : Nat → Nat → Value) => ((gi 93 ar1.toNatClampNeg).toInt = 0 → v.toInt = (gi 70 (55 + 5 * (gi 95 ar1.toNatClampNeg).toNatClampNeg)).toInt) ∧ ((gi 93 ar1.toNatClampNeg).toInt = 1 → v.toInt = (gi 70 (84 + 3 * (gi 95 ar1.toNatClampNeg).toNatClampNeg)).toInt)
theorem c_l_costsBy {X : x_Ext} {d : Nat} {sh : List (Nat ⊕ (Nat × Nat))} {gi : Nat → Nat → Int32} {gl : Nat → Nat → Int64} {gr : Nat → Nat → Value} (hI : t_I sh gi gr) (ar1 : Int32) (l_a1 : 0 ≤ ar1.toInt) (u_a1 : ar1.toInt ≤ 99) (e_p0 : ((gi 93 ar1.toNatClampNeg).toInt ≠ 2 → 0 ≤ (gi 95 ar1.toNatClampNeg).toInt)) : x_Me X (d + 2) n_X12_costsBy [.ref 69, .int ar1] (sh, gi, gl, gr) (t_PI wl_l_costsBy sh gi gl gr (-1) 255 (Q_l_costsBy gi gl gr ar1)) := by
  have hX : t_X wl_l_costsBy sh gi gl gr gi gl gr := t_X.rf
  refine me_i f_X12_costsBy (hI.wf.s rfl) rfl rfl rfl ?_
  refine ev_loc f_X12_costsBy (nx := 1) rfl rfl rfl rfl ?_
  refine ev_getR f_X12_costsBy (nx := 4) rfl (hI.wf.s rfl) rfl rfl (hI.wf.r rfl) rfl rfl ?_
  refine ev_loc f_X12_costsBy (nx := 5) rfl rfl rfl rfl ?_
  refine ev_ialdT f_X12_costsBy (nx := 6) rfl (hI.wf.s rfl) l_a1 (by decide) u_a1 (by decide) rfl (fun w1 e1 => ?_)
  obtain ⟨l1, u1⟩ := hI.abi e1 (by decide +kernel : t_abr 93 0 99 0 2 = true) l_a1 (by decide) u_a1 (by decide)
  refine ev_if f_X12_costsBy (t1 := 9) (t2 := 23) rfl rfl rfl (fun h2 => ?_) (fun h2 => ?_)
  · have u3 : w1.toInt ≤ 0 := t_equ h2 (by decide : (0:Int32).toInt ≤ (0:Int))
    refine ev_loc f_X12_costsBy (nx := 10) rfl rfl rfl rfl ?_
    refine ev_loc f_X12_costsBy (nx := 11) rfl rfl rfl rfl ?_
    refine ev_getR f_X12_costsBy (nx := 14) rfl (hI.wf.s rfl) rfl rfl (hI.wf.r rfl) rfl rfl ?_
    refine ev_loc f_X12_costsBy (nx := 15) rfl rfl rfl rfl ?_
    refine ev_ialdT f_X12_costsBy (nx := 16) rfl (hI.wf.s rfl) l_a1 (by decide) u_a1 (by decide) rfl (fun w4 e4 => ?_)
    obtain ⟨l4, u4⟩ := hI.abi e4 (by decide +kernel : t_abr 95 0 99 (-1) 5 = true) l_a1 (by decide) u_a1 (by decide)
    refine ev_ic f_X12_costsBy (nx := 17) (v := 3) rfl (by decide) rfl ?_
    refine ev_inV3 f_X12_costsBy (nx := 20) (lo2 := [(0, .ref 69), (1, .int w4), (2, .int 3)]) rfl rfl rfl rfl f_X12_ofShip (hI.wf.s rfl) rfl rfl rfl rfl rfl ?_
    refine ev_loc f_X12_ofShip (nx := 1) rfl rfl rfl rfl ?_
    refine ev_getR f_X12_ofShip (nx := 4) rfl (hI.wf.s rfl) rfl rfl (hI.wf.r rfl) rfl rfl ?_
    refine ev_bp f_X12_ofShip (nx := 6) (v := 52) rfl (by decide) rfl ?_
    refine ev_ic f_X12_ofShip (nx := 7) (v := 5) rfl (by decide) rfl ?_
    refine ev_loc f_X12_ofShip (nx := 8) rfl rfl rfl rfl ?_
    refine ev_mulL f_X12_ofShip (nx := 9) (c := 5) (l := (-5)) (u := 25) rfl (by decide) (by decide) l4 u4 rfl rfl (by decide) (by decide) rfl (fun z5 e5 l5 u5 => ?_)
    refine ev_addK f_X12_ofShip (nx := 10) (c := 52) (l := 47) (u := 77) rfl (by decide) l5 u5 rfl rfl (by decide) (by decide) rfl (fun z6 e6 l6 u6 => ?_)
    refine ev_loc f_X12_ofShip (nx := 11) rfl rfl rfl rfl ?_
    refine ev_addC f_X12_ofShip (nx := 12) (c := 3) (l := 50) (u := 80) rfl (by decide) l6 u6 rfl rfl (by decide) (by decide) rfl (fun z7 e7 l7 u7 => ?_)
    refine ev_ialdT f_X12_ofShip (nx := 13) rfl (hI.wf.s rfl) l7 (by decide) u7 (by decide) rfl (fun w8 e8 => ?_)
    obtain ⟨l8, u8⟩ := hI.abi e8 (by decide +kernel : t_abr 70 50 80 (-1) 255 = true) l7 (by decide) u7 (by decide)
    refine ev_retK1 f_X12_ofShip rfl rfl rfl ?_
    refine ev_jmp f_X12_costsBy (nx := 34) rfl rfl rfl ?_
    exact ev_ret f_X12_costsBy rfl rfl rfl ⟨_, _, _, rfl, hI, hX, ⟨_, rfl, l8, u8, (show ((gi 93 ar1.toNatClampNeg).toInt = 0 → w8.toInt = (gi 70 (55 + 5 * (gi 95 ar1.toNatClampNeg).toNatClampNeg)).toInt) ∧ ((gi 93 ar1.toNatClampNeg).toInt = 1 → w8.toInt = (gi 70 (84 + 3 * (gi 95 ar1.toNatClampNeg).toNatClampNeg)).toInt) from (by
                                                            have ek : w1.toInt = (gi 93 ar1.toNatClampNeg).toInt := by rw [e1]
                                                            refine ⟨fun _ => ?_, fun h => absurd h (by omega)⟩
                                                            have h0 := e_p0 (by omega)
                                                            rw [← e4] at h0
                                                            have cw := t_clamp (i := w4) (by omega)
                                                            have ci := t_clamp (i := z7) (by omega)
                                                            rw [e8, show z7.toNatClampNeg = 55 + 5 * w4.toNatClampNeg by omega, e4]))⟩⟩
  · have r9 : w1.toInt ≠ 0 := fun e => h2 (Int32.toInt_inj.mp (e.trans (by decide : (0:Int) = (0 : Int32).toInt)))
    have l10 : 1 ≤ w1.toInt := t_nel h2 l1 rfl rfl
    refine ev_loc f_X12_costsBy (nx := 24) rfl rfl rfl rfl ?_
    refine ev_loc f_X12_costsBy (nx := 25) rfl rfl rfl rfl ?_
    refine ev_getR f_X12_costsBy (nx := 28) rfl (hI.wf.s rfl) rfl rfl (hI.wf.r rfl) rfl rfl ?_
    refine ev_loc f_X12_costsBy (nx := 29) rfl rfl rfl rfl ?_
    refine ev_ialdT f_X12_costsBy (nx := 30) rfl (hI.wf.s rfl) l_a1 (by decide) u_a1 (by decide) rfl (fun w11 e11 => ?_)
    obtain ⟨l11, u11⟩ := hI.abi e11 (by decide +kernel : t_abr 95 0 99 (-1) 5 = true) l_a1 (by decide) u_a1 (by decide)
    refine ev_ic f_X12_costsBy (nx := 31) (v := 2) rfl (by decide) rfl ?_
    refine ev_inV3 f_X12_costsBy (nx := 34) (lo2 := [(0, .ref 69), (1, .int w11), (2, .int 2)]) rfl rfl rfl rfl f_X12_ofCart (hI.wf.s rfl) rfl rfl rfl rfl rfl ?_
    refine ev_loc f_X12_ofCart (nx := 1) rfl rfl rfl rfl ?_
    refine ev_getR f_X12_ofCart (nx := 4) rfl (hI.wf.s rfl) rfl rfl (hI.wf.r rfl) rfl rfl ?_
    refine ev_bp f_X12_ofCart (nx := 6) (v := 82) rfl (by decide) rfl ?_
    refine ev_ic f_X12_ofCart (nx := 7) (v := 3) rfl (by decide) rfl ?_
    refine ev_loc f_X12_ofCart (nx := 8) rfl rfl rfl rfl ?_
    refine ev_mulL f_X12_ofCart (nx := 9) (c := 3) (l := (-3)) (u := 15) rfl (by decide) (by decide) l11 u11 rfl rfl (by decide) (by decide) rfl (fun z12 e12 l12 u12 => ?_)
    refine ev_addK f_X12_ofCart (nx := 10) (c := 82) (l := 79) (u := 97) rfl (by decide) l12 u12 rfl rfl (by decide) (by decide) rfl (fun z13 e13 l13 u13 => ?_)
    refine ev_loc f_X12_ofCart (nx := 11) rfl rfl rfl rfl ?_
    refine ev_addC f_X12_ofCart (nx := 12) (c := 2) (l := 81) (u := 99) rfl (by decide) l13 u13 rfl rfl (by decide) (by decide) rfl (fun z14 e14 l14 u14 => ?_)
    refine ev_ialdT f_X12_ofCart (nx := 13) rfl (hI.wf.s rfl) l14 (by decide) u14 (by decide) rfl (fun w15 e15 => ?_)
    obtain ⟨l15, u15⟩ := hI.abi e15 (by decide +kernel : t_abr 70 81 99 0 120 = true) l14 (by decide) u14 (by decide)
    refine ev_retK1 f_X12_ofCart rfl rfl rfl ?_
    exact ev_ret f_X12_costsBy rfl rfl rfl ⟨_, _, _, rfl, hI, hX, ⟨_, rfl, (Int.le_trans (by decide : ((-1):Int) ≤ 0) l15), (Int.le_trans u15 (by decide : (120:Int) ≤ 255)), (show ((gi 93 ar1.toNatClampNeg).toInt = 0 → w15.toInt = (gi 70 (55 + 5 * (gi 95 ar1.toNatClampNeg).toNatClampNeg)).toInt) ∧ ((gi 93 ar1.toNatClampNeg).toInt = 1 → w15.toInt = (gi 70 (84 + 3 * (gi 95 ar1.toNatClampNeg).toNatClampNeg)).toInt) from (by
                                                            have ek : w1.toInt = (gi 93 ar1.toNatClampNeg).toInt := by rw [e1]
                                                            refine ⟨fun h => absurd h (by omega), fun h1 => ?_⟩
                                                            have h0 := e_p0 (by omega)
                                                            rw [← e11] at h0
                                                            have cw := t_clamp (i := w11) (by omega)
                                                            have ci := t_clamp (i := z14) (by omega)
                                                            rw [e15, show z14.toNatClampNeg = 84 + 3 * w11.toNatClampNeg by omega, e11]))⟩⟩
noncomputable def wl_e_dearest : List (Nat × Nat) := [(69, 2), (69, 44), (69, 45), (69, 48), (69, 55), (69, 57), (89, 10005), (89, 610011), (90, 9999), (91, 9999), (92, 9999), (93, 9999), (94, 9999), (95, 9999)]
noncomputable def Q_e_dearest (gi : Nat → Nat → Int32) (gl : Nat → Nat → Int64) (gr : Nat → Nat → Value) : Int32 → (Nat → Nat → Int32) → (Nat → Nat → Int64) → (Nat → Nat → Value) → Prop := fun (v : Int32) (gi2 : Nat → Nat → Int32) (gl2 : Nat → Nat → Int64) (gr2 : Nat → Nat → Value) => ∀ D : s_D, t_ME 0 gi D → t_Cb D → s_DB D → (gi 69 46).toInt = -1 → s_tk D → (s_LS (s_PD D (D 4)) 0 0 0 0 < 1000000000 → ∃ X, s_DA (s_EN D (s_PL D) (s_PL D).length) v.toInt X) ∧ (¬ s_LS (s_PD D (D 4)) 0 0 0 0 < 1000000000 → v.toInt = -1)
theorem c_e_dearest {X : x_Ext} {d : Nat} {sh : List (Nat ⊕ (Nat × Nat))} {gi : Nat → Nat → Int32} {gl : Nat → Nat → Int64} {gr : Nat → Nat → Value} (hI : t_I sh gi gr) (e_p0 : 1 ≤ (gi 70 4).toInt) : x_Me X (d + 7) n_X12_dearest [.ref 69] (sh, gi, gl, gr) (t_PI wl_e_dearest sh gi gl gr (-1) 11 (Q_e_dearest gi gl gr)) := by
  have hX : t_X wl_e_dearest sh gi gl gr gi gl gr := t_X.rf
  refine me_i f_X12_dearest (hI.wf.s rfl) rfl rfl rfl ?_
  obtain ⟨l2, u2⟩ := hI.ab (by decide +kernel : t_abr 70 4 4 0 20 = true) (Nat.le_refl _) (Nat.le_refl _)
  refine ev_loc f_X12_dearest (nx := 1) rfl rfl rfl rfl ?_
  refine ev_qI f_X12_dearest (nx := 4) (r := []) rfl rfl rfl rfl rfl rfl rfl (c_l_plans hI  (by omega)) rfl hX rfl (fun w3 gi3 gl3 gr3 l3 u3 hI hX hC3 q3 => ?_)
  have q3 : (∀ D : s_D, t_ME 0 gi D → t_Cb D → s_DB D → (gi 69 46).toInt = -1 → s_tk D → (w3.toInt = 1 ↔ s_LS (s_PD D (D 4)) 0 0 0 0 < 1000000000) ∧ (w3.toInt = 1 → s_P4 gi3 (s_PL D) ∧ s_FE D (gi3 69 57).toInt ∧ s_FX gi3 D)) ∧ (w3.toInt = 1 → t_wh (gi3 69 55).toInt (gi3 93) (gi3 95)) := q3
  refine ev_if f_X12_dearest (t1 := 7) (t2 := 14) rfl rfl rfl (fun h4 => ?_) (fun h4 => ?_)
  · have u5 : w3.toInt ≤ 0 := t_equ h4 (by decide : (0:Int32).toInt ≤ (0:Int))
    refine ev_loc f_X12_dearest (nx := 8) rfl rfl rfl rfl ?_
    refine ev_bp f_X12_dearest (nx := 10) (v := 6) rfl (by decide) rfl ?_
    refine ev_inV2 f_X12_dearest (nx := 13) (lo2 := [(0, .ref 69), (1, .int 6)]) rfl rfl rfl rfl f_X12_refuse (hI.wf.s rfl) rfl rfl rfl rfl rfl ?_
    refine ev_loc f_X12_refuse (nx := 1) rfl rfl rfl rfl ?_
    refine ev_loc f_X12_refuse (nx := 2) rfl rfl rfl rfl ?_
    refine ev_putIT f_X12_refuse (nx := 5) rfl (hI.wf.s rfl) rfl rfl rfl (hI.put0 (hI.wf.s rfl) rfl rfl) (hX.upI rfl) (fun g6 e6 hI hX => ?_)
    refine ev_ic f_X12_refuse (nx := 6) (v := -1) rfl (by decide) rfl ?_
    refine ev_retK1 f_X12_refuse rfl rfl rfl ?_
    exact ev_ret f_X12_dearest rfl rfl rfl ⟨_, _, _, rfl, hI, hX, ⟨_, rfl, (by decide : ((-1):Int) ≤ ((-1):Int32).toInt), (Int.le_trans (by decide : ((-1):Int32).toInt ≤ ((-1):Int)) (by decide : ((-1):Int) ≤ 11)), (show ∀ D : s_D, t_ME 0 gi D → t_Cb D → s_DB D → (gi 69 46).toInt = -1 → s_tk D → (s_LS (s_PD D (D 4)) 0 0 0 0 < 1000000000 → ∃ X, s_DA (s_EN D (s_PL D) (s_PL D).length) ((-1) : Int) X) ∧ (¬ s_LS (s_PD D (D 4)) 0 0 0 0 < 1000000000 → ((-1) : Int) = -1) from (by
                                                            intro D hm hb hd h46 ht
                                                            have hq := q3.1 D hm hb hd h46 ht
                                                            have z0 : (0 : Int32).toInt = 0 := rfl
                                                            have hno : ¬ s_LS (s_PD D (D 4)) 0 0 0 0 < 1000000000 := fun hh => by have h9 := hq.1.mpr hh; omega
                                                            exact ⟨fun h => absurd h hno, fun _ => rfl⟩))⟩⟩
  · have r7 : w3.toInt ≠ 0 := fun e => h4 (Int32.toInt_inj.mp (e.trans (by decide : (0:Int) = (0 : Int32).toInt)))
    have l8 : 1 ≤ w3.toInt := t_nel h4 l3 rfl rfl
    refine ev_ic f_X12_dearest (nx := 15) (v := -1) rfl (by decide) rfl ?_
    refine ev_loc f_X12_dearest (nx := 16) (lo' := [(1, .int (-1)), (0, .ref 69)]) rfl rfl rfl rfl ?_
    refine ev_ic f_X12_dearest (nx := 17) (v := 0) rfl (by decide) rfl ?_
    refine ev_loc f_X12_dearest (nx := 18) (lo' := [(2, .int 0), (1, .int (-1)), (0, .ref 69)]) rfl rfl rfl rfl ?_
    refine ev_ic f_X12_dearest (nx := 19) (v := 0) rfl (by decide) rfl ?_
    refine ev_loc f_X12_dearest (nx := 20) (lo' := [(3, .int 0), (2, .int 0), (1, .int (-1)), (0, .ref 69)]) rfl rfl rfl rfl ?_
    have L9 : ∀ (m9 : Nat) (y9_3 : Int32) (y9_2 : Int32) (y9_1 : Int32), 0 ≤ y9_3.toInt → y9_3.toInt ≤ 100 → 0 ≤ y9_2.toInt → (-1) ≤ y9_1.toInt → y9_1.toInt ≤ 11 → (∀ D : s_D, t_ME 0 gi D → t_Cb D → s_DB D → (gi 69 46).toInt = -1 → s_tk D → (s_DA (s_EN D (s_PL D) y9_3.toNatClampNeg) y9_1.toInt y9_2.toInt ∧ y9_3.toInt ≤ ((s_PL D).length : Int)) ∧ s_LS (s_PD D (D 4)) 0 0 0 0 < 1000000000 ∧ s_P4 gi3 (s_PL D) ∧ s_FX gi3 D) → (100 - y9_3.toInt).toNat = m9 → x_Ev X (d + 7) n_X12_dearest 20 [(3, .int y9_3), (2, .int y9_2), (1, .int y9_1), (0, .ref 69)] [] (sh, gi3, gl3, gr3) (t_PI wl_e_dearest sh gi gl gr (-1) 11 (Q_e_dearest gi gl gr)) := by
      intro m9
      induction m9 using Nat.strongRecOn with
      | _ m9 ih9 =>
      intro y9_3 y9_2 y9_1 l9_3 u9_3 l9_2 l9_1 u9_1 j9_0 hm9
      refine ev_loc f_X12_dearest (nx := 21) rfl rfl rfl rfl ?_
      refine ev_loc f_X12_dearest (nx := 22) rfl rfl rfl rfl ?_
      refine ev_getI f_X12_dearest (nx := 25) rfl (hI.wf.s rfl) rfl rfl rfl ?_
      obtain ⟨l10, u10⟩ := hI.b (hI.wf.s (k := 69) rfl) (t_bdK rfl : t_bd 11 55 = some (0, 100))
      refine ev_if f_X12_dearest (t1 := 128) (t2 := 28) rfl rfl rfl (fun h11 => ?_) (fun h11 => ?_)
      · have r12 : (gi3 69 55).toInt ≤ y9_3.toInt := Int32.le_iff_toInt_le.mp h11
        refine ev_loc f_X12_dearest (nx := 129) rfl rfl rfl rfl ?_
        refine ev_loc f_X12_dearest (nx := 130) rfl rfl rfl rfl ?_
        refine ev_inV2 f_X12_dearest (nx := 133) (lo2 := [(0, .ref 69), (1, .int y9_1)]) rfl rfl rfl rfl f_X12_orNone (hI.wf.s rfl) rfl rfl rfl rfl rfl ?_
        refine ev_loc f_X12_orNone (nx := 1) rfl rfl rfl rfl ?_
        refine ev_ic f_X12_orNone (nx := 2) (v := -1) rfl (by decide) rfl ?_
        refine ev_if f_X12_orNone (t1 := 5) (t2 := 14) rfl rfl rfl (fun h13 => ?_) (fun h13 => ?_)
        · have u14 : y9_1.toInt ≤ (-1) := t_equ h13 (by decide : ((-1):Int32).toInt ≤ ((-1):Int))
          refine ev_loc f_X12_orNone (nx := 6) rfl rfl rfl rfl ?_
          refine ev_bp f_X12_orNone (nx := 8) (v := 6) rfl (by decide) rfl ?_
          refine ev_inV2 f_X12_orNone (nx := 11) (lo2 := [(0, .ref 69), (1, .int 6)]) rfl rfl rfl rfl f_X12_refuse (hI.wf.s rfl) rfl rfl rfl rfl rfl ?_
          refine ev_loc f_X12_refuse (nx := 1) rfl rfl rfl rfl ?_
          refine ev_loc f_X12_refuse (nx := 2) rfl rfl rfl rfl ?_
          refine ev_putIT f_X12_refuse (nx := 5) rfl (hI.wf.s rfl) rfl rfl rfl (hI.put0 (hI.wf.s rfl) rfl rfl) (hX.upI rfl) (fun g15 e15 hI hX => ?_)
          refine ev_ic f_X12_refuse (nx := 6) (v := -1) rfl (by decide) rfl ?_
          refine ev_retK1 f_X12_refuse rfl rfl rfl ?_
          refine ev_jmp f_X12_orNone (nx := 19) rfl rfl rfl ?_
          refine ev_retK1 f_X12_orNone rfl rfl rfl ?_
          exact ev_ret f_X12_dearest rfl rfl rfl ⟨_, _, _, rfl, hI, hX, ⟨_, rfl, (by decide : ((-1):Int) ≤ ((-1):Int32).toInt), (Int.le_trans (by decide : ((-1):Int32).toInt ≤ ((-1):Int)) (by decide : ((-1):Int) ≤ 11)), (show ∀ D : s_D, t_ME 0 gi D → t_Cb D → s_DB D → (gi 69 46).toInt = -1 → s_tk D → (s_LS (s_PD D (D 4)) 0 0 0 0 < 1000000000 → ∃ X, s_DA (s_EN D (s_PL D) (s_PL D).length) ((-1) : Int) X) ∧ (¬ s_LS (s_PD D (D 4)) 0 0 0 0 < 1000000000 → ((-1) : Int) = -1) from (by
                                                            intro D hm hb hd h46 ht
                                                            obtain ⟨⟨g1, g2⟩, hyes, hp, hx⟩ := j9_0 D hm hb hd h46 ht
                                                            have ck := t_clamp (i := y9_3) (by omega)
                                                            have hn := hp.1
                                                            rw [show y9_3.toNatClampNeg = (s_PL D).length by omega] at g1
                                                            have zm : (-1 : Int32).toInt = -1 := rfl
                                                            rw [show y9_1.toInt = -1 by omega] at g1
                                                            exact ⟨fun _ => ⟨_, g1⟩, fun h => absurd hyes h⟩))⟩⟩
        · have r16 : y9_1.toInt ≠ (-1) := fun e => h13 (Int32.toInt_inj.mp (e.trans (by decide : ((-1):Int) = ((-1) : Int32).toInt)))
          have l17 : 0 ≤ y9_1.toInt := t_nel h13 l9_1 rfl rfl
          refine ev_loc f_X12_orNone (nx := 15) rfl rfl rfl rfl ?_
          refine ev_loc f_X12_orNone (nx := 16) rfl rfl rfl rfl ?_
          refine ev_inV2 f_X12_orNone (nx := 19) (lo2 := [(0, .ref 69), (1, .int y9_1)]) rfl rfl rfl rfl f_X12_gives (hI.wf.s rfl) rfl rfl rfl rfl rfl ?_
          refine ev_loc f_X12_gives (nx := 1) rfl rfl rfl rfl ?_
          refine ev_ic f_X12_gives (nx := 2) (v := 0) rfl (by decide) rfl ?_
          refine ev_putIT f_X12_gives (nx := 5) rfl (hI.wf.s rfl) rfl rfl rfl (hI.put0 (hI.wf.s rfl) rfl rfl) (hX.upI rfl) (fun g18 e18 hI hX => ?_)
          refine ev_loc f_X12_gives (nx := 6) rfl rfl rfl rfl ?_
          refine ev_retK1 f_X12_gives rfl rfl rfl ?_
          refine ev_retK1 f_X12_orNone rfl rfl rfl ?_
          exact ev_ret f_X12_dearest rfl rfl rfl ⟨_, _, _, rfl, hI, hX, ⟨_, rfl, (Int.le_trans (by decide : ((-1):Int) ≤ 0) l17), u9_1, (show ∀ D : s_D, t_ME 0 gi D → t_Cb D → s_DB D → (gi 69 46).toInt = -1 → s_tk D → (s_LS (s_PD D (D 4)) 0 0 0 0 < 1000000000 → ∃ X, s_DA (s_EN D (s_PL D) (s_PL D).length) y9_1.toInt X) ∧ (¬ s_LS (s_PD D (D 4)) 0 0 0 0 < 1000000000 → y9_1.toInt = -1) from (by
                                                            intro D hm hb hd h46 ht
                                                            obtain ⟨⟨g1, g2⟩, hyes, hp, hx⟩ := j9_0 D hm hb hd h46 ht
                                                            have ck := t_clamp (i := y9_3) (by omega)
                                                            have hn := hp.1
                                                            rw [show y9_3.toNatClampNeg = (s_PL D).length by omega] at g1
                                                            exact ⟨fun _ => ⟨_, g1⟩, fun h => absurd hyes h⟩))⟩⟩
      · have r19 : y9_3.toInt < (gi3 69 55).toInt := Int32.lt_iff_toInt_lt.mp (t_nle h11)
        have u20 : y9_3.toInt ≤ 99 := t_ltu (t_nle h11) u10 rfl
        have l21 : 1 ≤ (gi3 69 55).toInt := t_ltl (t_nle h11) l9_3 rfl
        refine ev_loc f_X12_dearest (nx := 29) rfl rfl rfl rfl ?_
        refine ev_getR f_X12_dearest (nx := 32) rfl (hI.wf.s rfl) rfl rfl (hI.wf.r rfl) rfl rfl ?_
        refine ev_loc f_X12_dearest (nx := 33) rfl rfl rfl rfl ?_
        refine ev_ialdT f_X12_dearest (nx := 34) rfl (hI.wf.s rfl) l9_3 (by decide) u20 (by decide) rfl (fun w22 e22 => ?_)
        obtain ⟨l22, u22⟩ := hI.abi e22 (by decide +kernel : t_abr 93 0 99 0 2 = true) l9_3 (by decide) u20 (by decide)
        refine ev_ic f_X12_dearest (nx := 35) (v := 2) rfl (by decide) rfl ?_
        refine ev_if f_X12_dearest (t1 := 38) (t2 := 41) rfl rfl rfl (fun h23 => ?_) (fun h23 => ?_)
        · have l24 : 2 ≤ w22.toInt := t_eql h23 (by decide : (2:Int) ≤ (2:Int32).toInt)
          refine ev_jmp f_X12_dearest (nx := 122) rfl rfl rfl ?_
          refine ev_incR f_X12_dearest (nx := 125) (c := 1) (l := 1) (u := 100) rfl rfl (by decide) (by decide) l9_3 u20 rfl rfl (by decide) (by decide) rfl (fun z25 e25 l25 u25 => ?_)
          refine ev_jmp f_X12_dearest (nx := 20) rfl rfl rfl ?_
          refine ev_sub (lo := [(3, .int z25), (2, .int y9_2), (1, .int y9_1), (0, .ref 69)]) rfl (t_sc rfl (t_sc rfl (t_sc rfl (t_sc rfl t_sn)))) ?_
          exact ih9 _ (by omega) (z25) (y9_2) (y9_1) (Int.le_trans (by decide : (0:Int) ≤ 1) l25) u25 l9_2 l9_1 u9_1 (by
                                                            intro D hm hb hd h46 ht
                                                            obtain ⟨⟨g1, g2⟩, hyes, hp, hx⟩ := j9_0 D hm hb hd h46 ht
                                                            have ck := t_clamp (i := y9_3) (by omega)
                                                            have hn := hp.1
                                                            obtain ⟨t, ht9⟩ := s_pd_g (L := s_PL D) (k := y9_3.toNatClampNeg) (by omega)
                                                            obtain ⟨v1, v2, v3⟩ := hp.2 _ t ht9
                                                            have ek := s_cp (y := y9_3) (z := z25) (by omega) (by omega)
                                                            have e33 : w22.toInt = t.1 := by rw [e22]; exact v1
                                                            rw [ek]
                                                            exact ⟨⟨s_DA_cg g1 (fun n x => (s_EN_t ht9 (by omega) n x).symm), by omega⟩, hyes, hp, hx⟩) rfl
        · have r26 : w22.toInt ≠ 2 := fun e => h23 (Int32.toInt_inj.mp (e.trans (by decide : (2:Int) = (2 : Int32).toInt)))
          have u27 : w22.toInt ≤ 1 := t_neu h23 u22 rfl rfl
          refine ev_loc f_X12_dearest (nx := 42) rfl rfl rfl rfl ?_
          refine ev_getR f_X12_dearest (nx := 45) rfl (hI.wf.s rfl) rfl rfl (hI.wf.r rfl) rfl rfl ?_
          refine ev_loc f_X12_dearest (nx := 46) rfl rfl rfl rfl ?_
          refine ev_ialdT f_X12_dearest (nx := 47) rfl (hI.wf.s rfl) l9_3 (by decide) u20 (by decide) rfl (fun w28 e28 => ?_)
          rw [e28.trans e22.symm]
          refine ev_if f_X12_dearest (t1 := 50) (t2 := 59) rfl rfl rfl (fun h29 => ?_) (fun h29 => ?_)
          · have u30 : w22.toInt ≤ 0 := t_equ h29 (by decide : (0:Int32).toInt ≤ (0:Int))
            refine ev_loc f_X12_dearest (nx := 51) rfl rfl rfl rfl ?_
            refine ev_getR f_X12_dearest (nx := 54) rfl (hI.wf.s rfl) rfl rfl (hI.wf.r rfl) rfl rfl ?_
            refine ev_loc f_X12_dearest (nx := 55) rfl rfl rfl rfl ?_
            refine ev_ialdT f_X12_dearest (nx := 56) rfl (hI.wf.s rfl) l9_3 (by decide) u20 (by decide) rfl (fun w31 e31 => ?_)
            obtain ⟨l31, u31⟩ := hI.abi e31 (by decide +kernel : t_abr 95 0 99 (-1) 5 = true) l9_3 (by decide) u20 (by decide)
            refine ev_jmp f_X12_dearest (nx := 68) rfl rfl rfl ?_
            refine ev_loc f_X12_dearest (nx := 70) (lo' := [(4, .int w31), (3, .int y9_3), (2, .int y9_2), (1, .int y9_1), (0, .ref 69)]) rfl rfl rfl rfl ?_
            refine ev_loc f_X12_dearest (nx := 71) rfl rfl rfl rfl ?_
            refine ev_getR f_X12_dearest (nx := 74) rfl (hI.wf.s rfl) rfl rfl (hI.wf.r rfl) rfl rfl ?_
            refine ev_loc f_X12_dearest (nx := 75) rfl rfl rfl rfl ?_
            refine ev_ialdT f_X12_dearest (nx := 76) rfl (hI.wf.s rfl) l9_3 (by decide) u20 (by decide) rfl (fun w32 e32 => ?_)
            refine ev_loc f_X12_dearest (nx := 77) rfl rfl rfl rfl ?_
            refine ev_loc f_X12_dearest (nx := 78) rfl rfl rfl rfl ?_
            refine ev_qI0 f_X12_dearest (nx := 81) (r := [.int w32]) rfl rfl rfl rfl rfl rfl rfl (c_l_cameBy hI (y9_3) l9_3 u20 (fun h => q3.2 (by omega) y9_3.toNatClampNeg (by have hc := t_clamp (i := y9_3) (by omega); omega) h)) rfl (fun w33 l33 u33 q33 => ?_)
            have q33 : ((gi3 93 y9_3.toNatClampNeg).toInt = 0 → w33.toInt = (gi3 89 (gi3 95 y9_3.toNatClampNeg).toNatClampNeg).toInt) ∧ ((gi3 93 y9_3.toNatClampNeg).toInt = 1 → w33.toInt = (gi3 89 (6 + (gi3 95 y9_3.toNatClampNeg).toNatClampNeg)).toInt) := q33
            refine ev_anyIE f_X12_dearest (nx := 82) rfl rfl rfl rfl (fun z34 e34 => ?_)
            refine ev_loc f_X12_dearest (nx := 83) rfl rfl rfl rfl ?_
            refine ev_loc f_X12_dearest (nx := 84) rfl rfl rfl rfl ?_
            refine ev_qI0 f_X12_dearest (nx := 87) (r := [.int z34]) rfl rfl rfl rfl rfl rfl rfl (c_l_costsBy hI (y9_3) l9_3 u20 (fun h => q3.2 (by omega) y9_3.toNatClampNeg (by have hc := t_clamp (i := y9_3) (by omega); omega) h)) rfl (fun w35 l35 u35 q35 => ?_)
            have q35 : ((gi3 93 y9_3.toNatClampNeg).toInt = 0 → w35.toInt = (gi3 70 (55 + 5 * (gi3 95 y9_3.toNatClampNeg).toNatClampNeg)).toInt) ∧ ((gi3 93 y9_3.toNatClampNeg).toInt = 1 → w35.toInt = (gi3 70 (84 + 3 * (gi3 95 y9_3.toNatClampNeg).toNatClampNeg)).toInt) := q35
            refine ev_anyIE f_X12_dearest (nx := 88) rfl rfl rfl rfl (fun z36 e36 => ?_)
            refine ev_loc f_X12_dearest (nx := 90) (lo' := [(5, .int z36), (4, .int w31), (3, .int y9_3), (2, .int y9_2), (1, .int y9_1), (0, .ref 69)]) rfl rfl rfl rfl ?_
            refine ev_loc f_X12_dearest (nx := 92) rfl rfl rfl rfl ?_
            refine ev_loc f_X12_dearest (nx := 93) rfl rfl rfl rfl ?_
            refine ev_if f_X12_dearest (t1 := 122) (t2 := 96) rfl rfl rfl (fun h37 => ?_) (fun h37 => ?_)
            · have r38 : z36.toInt < y9_2.toInt := Int32.lt_iff_toInt_lt.mp h37
              have u39 : z36.toInt ≤ 2147483646 := t_ltu h37 (t_hi y9_2) rfl
              refine ev_incR f_X12_dearest (nx := 125) (c := 1) (l := 1) (u := 100) rfl rfl (by decide) (by decide) l9_3 u20 rfl rfl (by decide) (by decide) rfl (fun z40 e40 l40 u40 => ?_)
              refine ev_jmp f_X12_dearest (nx := 20) rfl rfl rfl ?_
              refine ev_sub (lo := [(3, .int z40), (2, .int y9_2), (1, .int y9_1), (0, .ref 69)]) rfl (t_sc rfl (t_sc rfl (t_sc rfl (t_sc rfl t_sn)))) ?_
              exact ih9 _ (by omega) (z40) (y9_2) (y9_1) (Int.le_trans (by decide : (0:Int) ≤ 1) l40) u40 l9_2 l9_1 u9_1 (by
                                                            intro D hm hb hd h46 ht
                                                            obtain ⟨⟨g1, g2⟩, hyes, hp, hx⟩ := j9_0 D hm hb hd h46 ht
                                                            have ck := t_clamp (i := y9_3) (by omega)
                                                            have hn := hp.1
                                                            obtain ⟨t, ht9⟩ := s_pd_g (L := s_PL D) (k := y9_3.toNatClampNeg) (by omega)
                                                            obtain ⟨v1, v2, v3⟩ := hp.2 _ t ht9
                                                            have ek := s_cp (y := y9_3) (z := z40) (by omega) (by omega)
                                                            have e33 : w22.toInt = t.1 := by rw [e22]; exact v1
                                                            have hk012 : t.1 = 0 ∨ t.1 = 1 := by rcases s_PL_LP _ t ht9 with ⟨h, -⟩ | ⟨h | h, -⟩ <;> omega
                                                            have hO := s_PD_O (q := D 4) hb hd hd.2.2.1.1
                                                            have hB := s_PD_B (q := D 4) hb hd ⟨hd.2.2.1.1, hd.2.2.1.2⟩
                                                            have hab := s_ac_b hO hB hx.2.1 hx.2.2 ht9 hk012
                                                            have hmt := s_pl_Lm hO (W := s_WD D) 241 0 0 0 0 (by decide) (by decide) hyes _ t ht9
                                                            have q1 := q33
                                                            have q2 := q35
                                                            have hcm : w33.toInt = s_cwm D t := by
                                                              rcases hk012 with h9 | h9
                                                              · exact (q1.1 (by omega)).trans (s_cm_S hx hp ht9 h9)
                                                              · exact (q1.2 (by omega)).trans (s_cm_C hx hp ht9 h9)
                                                            have hct : w35.toInt = s_ctw D t := by
                                                              rcases hk012 with h9 | h9
                                                              · exact (q2.1 (by omega)).trans (s_ct_S hx hp ht9 h9)
                                                              · exact (q2.2 (by omega)).trans (s_ct_C hx hp ht9 h9)
                                                            have em : w32.toInt = t.2.1 := by rw [e32]; exact v2
                                                            have es := s_sub e34 em hcm (by omega)
                                                            have hml := s_mul e36 es hct (by omega) (by omega)
                                                            have hvl : z36.toInt = s_vl D t := hml.1
                                                            have ewh : w31.toInt = t.2.2 := by rw [e31]; exact v3
                                                            have hnb : w31.toInt = s_nb t := by unfold s_nb; rw [if_pos (by omega)]; omega
                                                            have hX0 := s_DA_X g1
                                                            rw [ek]
                                                            exact ⟨⟨s_DA_n g1 (fun n x hh => (s_EN_s ht9 (by omega) n x).mp hh) (fun n x hh => (s_EN_s ht9 (by omega) n x).mpr (Or.inl hh)) (by omega) (fun _ _ => by omega), by omega⟩, hyes, hp, hx⟩) rfl
            · have r41 : y9_2.toInt ≤ z36.toInt := Int32.le_iff_toInt_le.mp (t_nlt h37)
              have l42 : 0 ≤ z36.toInt := t_lel (t_nlt h37) l9_2
              refine ev_loc f_X12_dearest (nx := 98) rfl rfl rfl rfl ?_
              refine ev_if f_X12_dearest (t1 := 122) (t2 := 101) rfl rfl rfl (fun h43 => ?_) (fun h43 => ?_)
              · have u44 : z36.toInt ≤ 0 := t_equ h43 (by decide : (0:Int32).toInt ≤ (0:Int))
                refine ev_incR f_X12_dearest (nx := 125) (c := 1) (l := 1) (u := 100) rfl rfl (by decide) (by decide) l9_3 u20 rfl rfl (by decide) (by decide) rfl (fun z45 e45 l45 u45 => ?_)
                refine ev_jmp f_X12_dearest (nx := 20) rfl rfl rfl ?_
                refine ev_sub (lo := [(3, .int z45), (2, .int y9_2), (1, .int y9_1), (0, .ref 69)]) rfl (t_sc rfl (t_sc rfl (t_sc rfl (t_sc rfl t_sn)))) ?_
                exact ih9 _ (by omega) (z45) (y9_2) (y9_1) (Int.le_trans (by decide : (0:Int) ≤ 1) l45) u45 l9_2 l9_1 u9_1 (by
                                                            intro D hm hb hd h46 ht
                                                            obtain ⟨⟨g1, g2⟩, hyes, hp, hx⟩ := j9_0 D hm hb hd h46 ht
                                                            have ck := t_clamp (i := y9_3) (by omega)
                                                            have hn := hp.1
                                                            obtain ⟨t, ht9⟩ := s_pd_g (L := s_PL D) (k := y9_3.toNatClampNeg) (by omega)
                                                            obtain ⟨v1, v2, v3⟩ := hp.2 _ t ht9
                                                            have ek := s_cp (y := y9_3) (z := z45) (by omega) (by omega)
                                                            have e33 : w22.toInt = t.1 := by rw [e22]; exact v1
                                                            have hk012 : t.1 = 0 ∨ t.1 = 1 := by rcases s_PL_LP _ t ht9 with ⟨h, -⟩ | ⟨h | h, -⟩ <;> omega
                                                            have hO := s_PD_O (q := D 4) hb hd hd.2.2.1.1
                                                            have hB := s_PD_B (q := D 4) hb hd ⟨hd.2.2.1.1, hd.2.2.1.2⟩
                                                            have hab := s_ac_b hO hB hx.2.1 hx.2.2 ht9 hk012
                                                            have hmt := s_pl_Lm hO (W := s_WD D) 241 0 0 0 0 (by decide) (by decide) hyes _ t ht9
                                                            have q1 := q33
                                                            have q2 := q35
                                                            have hcm : w33.toInt = s_cwm D t := by
                                                              rcases hk012 with h9 | h9
                                                              · exact (q1.1 (by omega)).trans (s_cm_S hx hp ht9 h9)
                                                              · exact (q1.2 (by omega)).trans (s_cm_C hx hp ht9 h9)
                                                            have hct : w35.toInt = s_ctw D t := by
                                                              rcases hk012 with h9 | h9
                                                              · exact (q2.1 (by omega)).trans (s_ct_S hx hp ht9 h9)
                                                              · exact (q2.2 (by omega)).trans (s_ct_C hx hp ht9 h9)
                                                            have em : w32.toInt = t.2.1 := by rw [e32]; exact v2
                                                            have es := s_sub e34 em hcm (by omega)
                                                            have hml := s_mul e36 es hct (by omega) (by omega)
                                                            have hvl : z36.toInt = s_vl D t := hml.1
                                                            have ewh : w31.toInt = t.2.2 := by rw [e31]; exact v3
                                                            have hnb : w31.toInt = s_nb t := by unfold s_nb; rw [if_pos (by omega)]; omega
                                                            have hX0 := s_DA_X g1
                                                            rw [ek]
                                                            exact ⟨⟨s_DA_n g1 (fun n x hh => (s_EN_s ht9 (by omega) n x).mp hh) (fun n x hh => (s_EN_s ht9 (by omega) n x).mpr (Or.inl hh)) (by omega) (fun _ _ => by omega), by omega⟩, hyes, hp, hx⟩) rfl
              · have r46 : z36.toInt ≠ 0 := fun e => h43 (Int32.toInt_inj.mp (e.trans (by decide : (0:Int) = (0 : Int32).toInt)))
                have l47 : 1 ≤ z36.toInt := t_nel h43 l42 rfl rfl
                refine ev_loc f_X12_dearest (nx := 103) rfl rfl rfl rfl ?_
                refine ev_loc f_X12_dearest (nx := 104) rfl rfl rfl rfl ?_
                refine ev_if f_X12_dearest (t1 := 107) (t2 := 116) rfl rfl rfl (fun h48 => ?_) (fun h48 => ?_)
                · have r49 : z36.toInt = y9_2.toInt := t_eqi h48
                  have l50 : 1 ≤ y9_2.toInt := t_eql (Eq.symm h48) l47
                  refine ev_loc f_X12_dearest (nx := 109) rfl rfl rfl rfl ?_
                  refine ev_loc f_X12_dearest (nx := 110) rfl rfl rfl rfl ?_
                  refine ev_if f_X12_dearest (t1 := 116) (t2 := 113) rfl rfl rfl (fun h51 => ?_) (fun h51 => ?_)
                  · have r52 : w31.toInt ≤ y9_1.toInt := Int32.le_iff_toInt_le.mp h51
                    refine ev_loc f_X12_dearest (nx := 118) rfl rfl rfl rfl ?_
                    refine ev_loc f_X12_dearest (nx := 119) (lo' := [(2, .int z36), (5, .int z36), (4, .int w31), (3, .int y9_3), (1, .int y9_1), (0, .ref 69)]) rfl rfl rfl rfl ?_
                    refine ev_loc f_X12_dearest (nx := 121) rfl rfl rfl rfl ?_
                    refine ev_loc f_X12_dearest (nx := 122) (lo' := [(1, .int w31), (2, .int z36), (5, .int z36), (4, .int w31), (3, .int y9_3), (0, .ref 69)]) rfl rfl rfl rfl ?_
                    refine ev_incR f_X12_dearest (nx := 125) (c := 1) (l := 1) (u := 100) rfl rfl (by decide) (by decide) l9_3 u20 rfl rfl (by decide) (by decide) rfl (fun z53 e53 l53 u53 => ?_)
                    refine ev_jmp f_X12_dearest (nx := 20) rfl rfl rfl ?_
                    refine ev_sub (lo := [(3, .int z53), (2, .int z36), (1, .int w31), (0, .ref 69)]) rfl (t_sc rfl (t_sc rfl (t_sc rfl (t_sc rfl t_sn)))) ?_
                    exact ih9 _ (by omega) (z53) (z36) (w31) (Int.le_trans (by decide : (0:Int) ≤ 1) l53) u53 (Int.le_trans (by decide : (0:Int) ≤ 1) l47) l31 (Int.le_trans u31 (by decide : (5:Int) ≤ 11)) (by
                                                            intro D hm hb hd h46 ht
                                                            obtain ⟨⟨g1, g2⟩, hyes, hp, hx⟩ := j9_0 D hm hb hd h46 ht
                                                            have ck := t_clamp (i := y9_3) (by omega)
                                                            have hn := hp.1
                                                            obtain ⟨t, ht9⟩ := s_pd_g (L := s_PL D) (k := y9_3.toNatClampNeg) (by omega)
                                                            obtain ⟨v1, v2, v3⟩ := hp.2 _ t ht9
                                                            have ek := s_cp (y := y9_3) (z := z53) (by omega) (by omega)
                                                            have e33 : w22.toInt = t.1 := by rw [e22]; exact v1
                                                            have hk012 : t.1 = 0 ∨ t.1 = 1 := by rcases s_PL_LP _ t ht9 with ⟨h, -⟩ | ⟨h | h, -⟩ <;> omega
                                                            have hO := s_PD_O (q := D 4) hb hd hd.2.2.1.1
                                                            have hB := s_PD_B (q := D 4) hb hd ⟨hd.2.2.1.1, hd.2.2.1.2⟩
                                                            have hab := s_ac_b hO hB hx.2.1 hx.2.2 ht9 hk012
                                                            have hmt := s_pl_Lm hO (W := s_WD D) 241 0 0 0 0 (by decide) (by decide) hyes _ t ht9
                                                            have q1 := q33
                                                            have q2 := q35
                                                            have hcm : w33.toInt = s_cwm D t := by
                                                              rcases hk012 with h9 | h9
                                                              · exact (q1.1 (by omega)).trans (s_cm_S hx hp ht9 h9)
                                                              · exact (q1.2 (by omega)).trans (s_cm_C hx hp ht9 h9)
                                                            have hct : w35.toInt = s_ctw D t := by
                                                              rcases hk012 with h9 | h9
                                                              · exact (q2.1 (by omega)).trans (s_ct_S hx hp ht9 h9)
                                                              · exact (q2.2 (by omega)).trans (s_ct_C hx hp ht9 h9)
                                                            have em : w32.toInt = t.2.1 := by rw [e32]; exact v2
                                                            have es := s_sub e34 em hcm (by omega)
                                                            have hml := s_mul e36 es hct (by omega) (by omega)
                                                            have hvl : z36.toInt = s_vl D t := hml.1
                                                            have ewh : w31.toInt = t.2.2 := by rw [e31]; exact v3
                                                            have hnb : w31.toInt = s_nb t := by unfold s_nb; rw [if_pos (by omega)]; omega
                                                            have hX0 := s_DA_X g1
                                                            rw [ek]
                                                            rw [hnb, hvl]
                                                            exact ⟨⟨s_DA_y g1 (s_EN_s ht9 (by omega)) (by omega) (by omega), by omega⟩, hyes, hp, hx⟩) rfl
                  · have r54 : y9_1.toInt < w31.toInt := Int32.lt_iff_toInt_lt.mp (t_nle h51)
                    have u55 : y9_1.toInt ≤ 4 := t_ltu (t_nle h51) u31 rfl
                    have l56 : 0 ≤ w31.toInt := t_ltl (t_nle h51) l9_1 rfl
                    refine ev_jmp f_X12_dearest (nx := 122) rfl rfl rfl ?_
                    refine ev_incR f_X12_dearest (nx := 125) (c := 1) (l := 1) (u := 100) rfl rfl (by decide) (by decide) l9_3 u20 rfl rfl (by decide) (by decide) rfl (fun z57 e57 l57 u57 => ?_)
                    refine ev_jmp f_X12_dearest (nx := 20) rfl rfl rfl ?_
                    refine ev_sub (lo := [(3, .int z57), (2, .int y9_2), (1, .int y9_1), (0, .ref 69)]) rfl (t_sc rfl (t_sc rfl (t_sc rfl (t_sc rfl t_sn)))) ?_
                    exact ih9 _ (by omega) (z57) (y9_2) (y9_1) (Int.le_trans (by decide : (0:Int) ≤ 1) l57) u57 (Int.le_trans (by decide : (0:Int) ≤ 1) l50) l9_1 (Int.le_trans u55 (by decide : (4:Int) ≤ 11)) (by
                                                            intro D hm hb hd h46 ht
                                                            obtain ⟨⟨g1, g2⟩, hyes, hp, hx⟩ := j9_0 D hm hb hd h46 ht
                                                            have ck := t_clamp (i := y9_3) (by omega)
                                                            have hn := hp.1
                                                            obtain ⟨t, ht9⟩ := s_pd_g (L := s_PL D) (k := y9_3.toNatClampNeg) (by omega)
                                                            obtain ⟨v1, v2, v3⟩ := hp.2 _ t ht9
                                                            have ek := s_cp (y := y9_3) (z := z57) (by omega) (by omega)
                                                            have e33 : w22.toInt = t.1 := by rw [e22]; exact v1
                                                            have hk012 : t.1 = 0 ∨ t.1 = 1 := by rcases s_PL_LP _ t ht9 with ⟨h, -⟩ | ⟨h | h, -⟩ <;> omega
                                                            have hO := s_PD_O (q := D 4) hb hd hd.2.2.1.1
                                                            have hB := s_PD_B (q := D 4) hb hd ⟨hd.2.2.1.1, hd.2.2.1.2⟩
                                                            have hab := s_ac_b hO hB hx.2.1 hx.2.2 ht9 hk012
                                                            have hmt := s_pl_Lm hO (W := s_WD D) 241 0 0 0 0 (by decide) (by decide) hyes _ t ht9
                                                            have q1 := q33
                                                            have q2 := q35
                                                            have hcm : w33.toInt = s_cwm D t := by
                                                              rcases hk012 with h9 | h9
                                                              · exact (q1.1 (by omega)).trans (s_cm_S hx hp ht9 h9)
                                                              · exact (q1.2 (by omega)).trans (s_cm_C hx hp ht9 h9)
                                                            have hct : w35.toInt = s_ctw D t := by
                                                              rcases hk012 with h9 | h9
                                                              · exact (q2.1 (by omega)).trans (s_ct_S hx hp ht9 h9)
                                                              · exact (q2.2 (by omega)).trans (s_ct_C hx hp ht9 h9)
                                                            have em : w32.toInt = t.2.1 := by rw [e32]; exact v2
                                                            have es := s_sub e34 em hcm (by omega)
                                                            have hml := s_mul e36 es hct (by omega) (by omega)
                                                            have hvl : z36.toInt = s_vl D t := hml.1
                                                            have ewh : w31.toInt = t.2.2 := by rw [e31]; exact v3
                                                            have hnb : w31.toInt = s_nb t := by unfold s_nb; rw [if_pos (by omega)]; omega
                                                            have hX0 := s_DA_X g1
                                                            rw [ek]
                                                            exact ⟨⟨s_DA_n g1 (fun n x hh => (s_EN_s ht9 (by omega) n x).mp hh) (fun n x hh => (s_EN_s ht9 (by omega) n x).mpr (Or.inl hh)) (by omega) (fun _ _ => by omega), by omega⟩, hyes, hp, hx⟩) rfl
                · have r58 : z36.toInt ≠ y9_2.toInt := t_nei h48
                  refine ev_loc f_X12_dearest (nx := 118) rfl rfl rfl rfl ?_
                  refine ev_loc f_X12_dearest (nx := 119) (lo' := [(2, .int z36), (5, .int z36), (4, .int w31), (3, .int y9_3), (1, .int y9_1), (0, .ref 69)]) rfl rfl rfl rfl ?_
                  refine ev_loc f_X12_dearest (nx := 121) rfl rfl rfl rfl ?_
                  refine ev_loc f_X12_dearest (nx := 122) (lo' := [(1, .int w31), (2, .int z36), (5, .int z36), (4, .int w31), (3, .int y9_3), (0, .ref 69)]) rfl rfl rfl rfl ?_
                  refine ev_incR f_X12_dearest (nx := 125) (c := 1) (l := 1) (u := 100) rfl rfl (by decide) (by decide) l9_3 u20 rfl rfl (by decide) (by decide) rfl (fun z59 e59 l59 u59 => ?_)
                  refine ev_jmp f_X12_dearest (nx := 20) rfl rfl rfl ?_
                  refine ev_sub (lo := [(3, .int z59), (2, .int z36), (1, .int w31), (0, .ref 69)]) rfl (t_sc rfl (t_sc rfl (t_sc rfl (t_sc rfl t_sn)))) ?_
                  exact ih9 _ (by omega) (z59) (z36) (w31) (Int.le_trans (by decide : (0:Int) ≤ 1) l59) u59 (Int.le_trans (by decide : (0:Int) ≤ 1) l47) l31 (Int.le_trans u31 (by decide : (5:Int) ≤ 11)) (by
                                                            intro D hm hb hd h46 ht
                                                            obtain ⟨⟨g1, g2⟩, hyes, hp, hx⟩ := j9_0 D hm hb hd h46 ht
                                                            have ck := t_clamp (i := y9_3) (by omega)
                                                            have hn := hp.1
                                                            obtain ⟨t, ht9⟩ := s_pd_g (L := s_PL D) (k := y9_3.toNatClampNeg) (by omega)
                                                            obtain ⟨v1, v2, v3⟩ := hp.2 _ t ht9
                                                            have ek := s_cp (y := y9_3) (z := z59) (by omega) (by omega)
                                                            have e33 : w22.toInt = t.1 := by rw [e22]; exact v1
                                                            have hk012 : t.1 = 0 ∨ t.1 = 1 := by rcases s_PL_LP _ t ht9 with ⟨h, -⟩ | ⟨h | h, -⟩ <;> omega
                                                            have hO := s_PD_O (q := D 4) hb hd hd.2.2.1.1
                                                            have hB := s_PD_B (q := D 4) hb hd ⟨hd.2.2.1.1, hd.2.2.1.2⟩
                                                            have hab := s_ac_b hO hB hx.2.1 hx.2.2 ht9 hk012
                                                            have hmt := s_pl_Lm hO (W := s_WD D) 241 0 0 0 0 (by decide) (by decide) hyes _ t ht9
                                                            have q1 := q33
                                                            have q2 := q35
                                                            have hcm : w33.toInt = s_cwm D t := by
                                                              rcases hk012 with h9 | h9
                                                              · exact (q1.1 (by omega)).trans (s_cm_S hx hp ht9 h9)
                                                              · exact (q1.2 (by omega)).trans (s_cm_C hx hp ht9 h9)
                                                            have hct : w35.toInt = s_ctw D t := by
                                                              rcases hk012 with h9 | h9
                                                              · exact (q2.1 (by omega)).trans (s_ct_S hx hp ht9 h9)
                                                              · exact (q2.2 (by omega)).trans (s_ct_C hx hp ht9 h9)
                                                            have em : w32.toInt = t.2.1 := by rw [e32]; exact v2
                                                            have es := s_sub e34 em hcm (by omega)
                                                            have hml := s_mul e36 es hct (by omega) (by omega)
                                                            have hvl : z36.toInt = s_vl D t := hml.1
                                                            have ewh : w31.toInt = t.2.2 := by rw [e31]; exact v3
                                                            have hnb : w31.toInt = s_nb t := by unfold s_nb; rw [if_pos (by omega)]; omega
                                                            have hX0 := s_DA_X g1
                                                            rw [ek]
                                                            rw [hnb, hvl]
                                                            exact ⟨⟨s_DA_y g1 (s_EN_s ht9 (by omega)) (by omega) (by omega), by omega⟩, hyes, hp, hx⟩) rfl
          · have r60 : w22.toInt ≠ 0 := fun e => h29 (Int32.toInt_inj.mp (e.trans (by decide : (0:Int) = (0 : Int32).toInt)))
            have l61 : 1 ≤ w22.toInt := t_nel h29 l22 rfl rfl
            refine ev_bp f_X12_dearest (nx := 61) (v := 6) rfl (by decide) rfl ?_
            refine ev_loc f_X12_dearest (nx := 62) rfl rfl rfl rfl ?_
            refine ev_getR f_X12_dearest (nx := 65) rfl (hI.wf.s rfl) rfl rfl (hI.wf.r rfl) rfl rfl ?_
            refine ev_loc f_X12_dearest (nx := 66) rfl rfl rfl rfl ?_
            refine ev_ialdT f_X12_dearest (nx := 67) rfl (hI.wf.s rfl) l9_3 (by decide) u20 (by decide) rfl (fun w62 e62 => ?_)
            obtain ⟨l62, u62⟩ := hI.abi e62 (by decide +kernel : t_abr 95 0 99 (-1) 5 = true) l9_3 (by decide) u20 (by decide)
            refine ev_addK f_X12_dearest (nx := 68) (c := 6) (l := 5) (u := 11) rfl (by decide) l62 u62 rfl rfl (by decide) (by decide) rfl (fun z63 e63 l63 u63 => ?_)
            refine ev_loc f_X12_dearest (nx := 70) (lo' := [(4, .int z63), (3, .int y9_3), (2, .int y9_2), (1, .int y9_1), (0, .ref 69)]) rfl rfl rfl rfl ?_
            refine ev_loc f_X12_dearest (nx := 71) rfl rfl rfl rfl ?_
            refine ev_getR f_X12_dearest (nx := 74) rfl (hI.wf.s rfl) rfl rfl (hI.wf.r rfl) rfl rfl ?_
            refine ev_loc f_X12_dearest (nx := 75) rfl rfl rfl rfl ?_
            refine ev_ialdT f_X12_dearest (nx := 76) rfl (hI.wf.s rfl) l9_3 (by decide) u20 (by decide) rfl (fun w64 e64 => ?_)
            refine ev_loc f_X12_dearest (nx := 77) rfl rfl rfl rfl ?_
            refine ev_loc f_X12_dearest (nx := 78) rfl rfl rfl rfl ?_
            refine ev_qI0 f_X12_dearest (nx := 81) (r := [.int w64]) rfl rfl rfl rfl rfl rfl rfl (c_l_cameBy hI (y9_3) l9_3 u20 (fun h => q3.2 (by omega) y9_3.toNatClampNeg (by have hc := t_clamp (i := y9_3) (by omega); omega) h)) rfl (fun w65 l65 u65 q65 => ?_)
            have q65 : ((gi3 93 y9_3.toNatClampNeg).toInt = 0 → w65.toInt = (gi3 89 (gi3 95 y9_3.toNatClampNeg).toNatClampNeg).toInt) ∧ ((gi3 93 y9_3.toNatClampNeg).toInt = 1 → w65.toInt = (gi3 89 (6 + (gi3 95 y9_3.toNatClampNeg).toNatClampNeg)).toInt) := q65
            refine ev_anyIE f_X12_dearest (nx := 82) rfl rfl rfl rfl (fun z66 e66 => ?_)
            refine ev_loc f_X12_dearest (nx := 83) rfl rfl rfl rfl ?_
            refine ev_loc f_X12_dearest (nx := 84) rfl rfl rfl rfl ?_
            refine ev_qI0 f_X12_dearest (nx := 87) (r := [.int z66]) rfl rfl rfl rfl rfl rfl rfl (c_l_costsBy hI (y9_3) l9_3 u20 (fun h => q3.2 (by omega) y9_3.toNatClampNeg (by have hc := t_clamp (i := y9_3) (by omega); omega) h)) rfl (fun w67 l67 u67 q67 => ?_)
            have q67 : ((gi3 93 y9_3.toNatClampNeg).toInt = 0 → w67.toInt = (gi3 70 (55 + 5 * (gi3 95 y9_3.toNatClampNeg).toNatClampNeg)).toInt) ∧ ((gi3 93 y9_3.toNatClampNeg).toInt = 1 → w67.toInt = (gi3 70 (84 + 3 * (gi3 95 y9_3.toNatClampNeg).toNatClampNeg)).toInt) := q67
            refine ev_anyIE f_X12_dearest (nx := 88) rfl rfl rfl rfl (fun z68 e68 => ?_)
            refine ev_loc f_X12_dearest (nx := 90) (lo' := [(5, .int z68), (4, .int z63), (3, .int y9_3), (2, .int y9_2), (1, .int y9_1), (0, .ref 69)]) rfl rfl rfl rfl ?_
            refine ev_loc f_X12_dearest (nx := 92) rfl rfl rfl rfl ?_
            refine ev_loc f_X12_dearest (nx := 93) rfl rfl rfl rfl ?_
            refine ev_if f_X12_dearest (t1 := 122) (t2 := 96) rfl rfl rfl (fun h69 => ?_) (fun h69 => ?_)
            · have r70 : z68.toInt < y9_2.toInt := Int32.lt_iff_toInt_lt.mp h69
              have u71 : z68.toInt ≤ 2147483646 := t_ltu h69 (t_hi y9_2) rfl
              refine ev_incR f_X12_dearest (nx := 125) (c := 1) (l := 1) (u := 100) rfl rfl (by decide) (by decide) l9_3 u20 rfl rfl (by decide) (by decide) rfl (fun z72 e72 l72 u72 => ?_)
              refine ev_jmp f_X12_dearest (nx := 20) rfl rfl rfl ?_
              refine ev_sub (lo := [(3, .int z72), (2, .int y9_2), (1, .int y9_1), (0, .ref 69)]) rfl (t_sc rfl (t_sc rfl (t_sc rfl (t_sc rfl t_sn)))) ?_
              exact ih9 _ (by omega) (z72) (y9_2) (y9_1) (Int.le_trans (by decide : (0:Int) ≤ 1) l72) u72 l9_2 l9_1 u9_1 (by
                                                            intro D hm hb hd h46 ht
                                                            obtain ⟨⟨g1, g2⟩, hyes, hp, hx⟩ := j9_0 D hm hb hd h46 ht
                                                            have ck := t_clamp (i := y9_3) (by omega)
                                                            have hn := hp.1
                                                            obtain ⟨t, ht9⟩ := s_pd_g (L := s_PL D) (k := y9_3.toNatClampNeg) (by omega)
                                                            obtain ⟨v1, v2, v3⟩ := hp.2 _ t ht9
                                                            have ek := s_cp (y := y9_3) (z := z72) (by omega) (by omega)
                                                            have e33 : w22.toInt = t.1 := by rw [e22]; exact v1
                                                            have hk012 : t.1 = 0 ∨ t.1 = 1 := by rcases s_PL_LP _ t ht9 with ⟨h, -⟩ | ⟨h | h, -⟩ <;> omega
                                                            have hO := s_PD_O (q := D 4) hb hd hd.2.2.1.1
                                                            have hB := s_PD_B (q := D 4) hb hd ⟨hd.2.2.1.1, hd.2.2.1.2⟩
                                                            have hab := s_ac_b hO hB hx.2.1 hx.2.2 ht9 hk012
                                                            have hmt := s_pl_Lm hO (W := s_WD D) 241 0 0 0 0 (by decide) (by decide) hyes _ t ht9
                                                            have q1 := q65
                                                            have q2 := q67
                                                            have hcm : w65.toInt = s_cwm D t := by
                                                              rcases hk012 with h9 | h9
                                                              · exact (q1.1 (by omega)).trans (s_cm_S hx hp ht9 h9)
                                                              · exact (q1.2 (by omega)).trans (s_cm_C hx hp ht9 h9)
                                                            have hct : w67.toInt = s_ctw D t := by
                                                              rcases hk012 with h9 | h9
                                                              · exact (q2.1 (by omega)).trans (s_ct_S hx hp ht9 h9)
                                                              · exact (q2.2 (by omega)).trans (s_ct_C hx hp ht9 h9)
                                                            have em : w64.toInt = t.2.1 := by rw [e64]; exact v2
                                                            have es := s_sub e66 em hcm (by omega)
                                                            have hml := s_mul e68 es hct (by omega) (by omega)
                                                            have hvl : z68.toInt = s_vl D t := hml.1
                                                            have ewh : w62.toInt = t.2.2 := by rw [e62]; exact v3
                                                            have hnb : z63.toInt = s_nb t := by unfold s_nb; rw [if_neg (by omega)]; omega
                                                            have hX0 := s_DA_X g1
                                                            rw [ek]
                                                            exact ⟨⟨s_DA_n g1 (fun n x hh => (s_EN_s ht9 (by omega) n x).mp hh) (fun n x hh => (s_EN_s ht9 (by omega) n x).mpr (Or.inl hh)) (by omega) (fun _ _ => by omega), by omega⟩, hyes, hp, hx⟩) rfl
            · have r73 : y9_2.toInt ≤ z68.toInt := Int32.le_iff_toInt_le.mp (t_nlt h69)
              have l74 : 0 ≤ z68.toInt := t_lel (t_nlt h69) l9_2
              refine ev_loc f_X12_dearest (nx := 98) rfl rfl rfl rfl ?_
              refine ev_if f_X12_dearest (t1 := 122) (t2 := 101) rfl rfl rfl (fun h75 => ?_) (fun h75 => ?_)
              · have u76 : z68.toInt ≤ 0 := t_equ h75 (by decide : (0:Int32).toInt ≤ (0:Int))
                refine ev_incR f_X12_dearest (nx := 125) (c := 1) (l := 1) (u := 100) rfl rfl (by decide) (by decide) l9_3 u20 rfl rfl (by decide) (by decide) rfl (fun z77 e77 l77 u77 => ?_)
                refine ev_jmp f_X12_dearest (nx := 20) rfl rfl rfl ?_
                refine ev_sub (lo := [(3, .int z77), (2, .int y9_2), (1, .int y9_1), (0, .ref 69)]) rfl (t_sc rfl (t_sc rfl (t_sc rfl (t_sc rfl t_sn)))) ?_
                exact ih9 _ (by omega) (z77) (y9_2) (y9_1) (Int.le_trans (by decide : (0:Int) ≤ 1) l77) u77 l9_2 l9_1 u9_1 (by
                                                            intro D hm hb hd h46 ht
                                                            obtain ⟨⟨g1, g2⟩, hyes, hp, hx⟩ := j9_0 D hm hb hd h46 ht
                                                            have ck := t_clamp (i := y9_3) (by omega)
                                                            have hn := hp.1
                                                            obtain ⟨t, ht9⟩ := s_pd_g (L := s_PL D) (k := y9_3.toNatClampNeg) (by omega)
                                                            obtain ⟨v1, v2, v3⟩ := hp.2 _ t ht9
                                                            have ek := s_cp (y := y9_3) (z := z77) (by omega) (by omega)
                                                            have e33 : w22.toInt = t.1 := by rw [e22]; exact v1
                                                            have hk012 : t.1 = 0 ∨ t.1 = 1 := by rcases s_PL_LP _ t ht9 with ⟨h, -⟩ | ⟨h | h, -⟩ <;> omega
                                                            have hO := s_PD_O (q := D 4) hb hd hd.2.2.1.1
                                                            have hB := s_PD_B (q := D 4) hb hd ⟨hd.2.2.1.1, hd.2.2.1.2⟩
                                                            have hab := s_ac_b hO hB hx.2.1 hx.2.2 ht9 hk012
                                                            have hmt := s_pl_Lm hO (W := s_WD D) 241 0 0 0 0 (by decide) (by decide) hyes _ t ht9
                                                            have q1 := q65
                                                            have q2 := q67
                                                            have hcm : w65.toInt = s_cwm D t := by
                                                              rcases hk012 with h9 | h9
                                                              · exact (q1.1 (by omega)).trans (s_cm_S hx hp ht9 h9)
                                                              · exact (q1.2 (by omega)).trans (s_cm_C hx hp ht9 h9)
                                                            have hct : w67.toInt = s_ctw D t := by
                                                              rcases hk012 with h9 | h9
                                                              · exact (q2.1 (by omega)).trans (s_ct_S hx hp ht9 h9)
                                                              · exact (q2.2 (by omega)).trans (s_ct_C hx hp ht9 h9)
                                                            have em : w64.toInt = t.2.1 := by rw [e64]; exact v2
                                                            have es := s_sub e66 em hcm (by omega)
                                                            have hml := s_mul e68 es hct (by omega) (by omega)
                                                            have hvl : z68.toInt = s_vl D t := hml.1
                                                            have ewh : w62.toInt = t.2.2 := by rw [e62]; exact v3
                                                            have hnb : z63.toInt = s_nb t := by unfold s_nb; rw [if_neg (by omega)]; omega
                                                            have hX0 := s_DA_X g1
                                                            rw [ek]
                                                            exact ⟨⟨s_DA_n g1 (fun n x hh => (s_EN_s ht9 (by omega) n x).mp hh) (fun n x hh => (s_EN_s ht9 (by omega) n x).mpr (Or.inl hh)) (by omega) (fun _ _ => by omega), by omega⟩, hyes, hp, hx⟩) rfl
              · have r78 : z68.toInt ≠ 0 := fun e => h75 (Int32.toInt_inj.mp (e.trans (by decide : (0:Int) = (0 : Int32).toInt)))
                have l79 : 1 ≤ z68.toInt := t_nel h75 l74 rfl rfl
                refine ev_loc f_X12_dearest (nx := 103) rfl rfl rfl rfl ?_
                refine ev_loc f_X12_dearest (nx := 104) rfl rfl rfl rfl ?_
                refine ev_if f_X12_dearest (t1 := 107) (t2 := 116) rfl rfl rfl (fun h80 => ?_) (fun h80 => ?_)
                · have r81 : z68.toInt = y9_2.toInt := t_eqi h80
                  have l82 : 1 ≤ y9_2.toInt := t_eql (Eq.symm h80) l79
                  refine ev_loc f_X12_dearest (nx := 109) rfl rfl rfl rfl ?_
                  refine ev_loc f_X12_dearest (nx := 110) rfl rfl rfl rfl ?_
                  refine ev_if f_X12_dearest (t1 := 116) (t2 := 113) rfl rfl rfl (fun h83 => ?_) (fun h83 => ?_)
                  · have r84 : z63.toInt ≤ y9_1.toInt := Int32.le_iff_toInt_le.mp h83
                    have l85 : 5 ≤ y9_1.toInt := t_lel h83 l63
                    refine ev_loc f_X12_dearest (nx := 118) rfl rfl rfl rfl ?_
                    refine ev_loc f_X12_dearest (nx := 119) (lo' := [(2, .int z68), (5, .int z68), (4, .int z63), (3, .int y9_3), (1, .int y9_1), (0, .ref 69)]) rfl rfl rfl rfl ?_
                    refine ev_loc f_X12_dearest (nx := 121) rfl rfl rfl rfl ?_
                    refine ev_loc f_X12_dearest (nx := 122) (lo' := [(1, .int z63), (2, .int z68), (5, .int z68), (4, .int z63), (3, .int y9_3), (0, .ref 69)]) rfl rfl rfl rfl ?_
                    refine ev_incR f_X12_dearest (nx := 125) (c := 1) (l := 1) (u := 100) rfl rfl (by decide) (by decide) l9_3 u20 rfl rfl (by decide) (by decide) rfl (fun z86 e86 l86 u86 => ?_)
                    refine ev_jmp f_X12_dearest (nx := 20) rfl rfl rfl ?_
                    refine ev_sub (lo := [(3, .int z86), (2, .int z68), (1, .int z63), (0, .ref 69)]) rfl (t_sc rfl (t_sc rfl (t_sc rfl (t_sc rfl t_sn)))) ?_
                    exact ih9 _ (by omega) (z86) (z68) (z63) (Int.le_trans (by decide : (0:Int) ≤ 1) l86) u86 (Int.le_trans (by decide : (0:Int) ≤ 1) l79) (Int.le_trans (by decide : ((-1):Int) ≤ 5) l63) u63 (by
                                                            intro D hm hb hd h46 ht
                                                            obtain ⟨⟨g1, g2⟩, hyes, hp, hx⟩ := j9_0 D hm hb hd h46 ht
                                                            have ck := t_clamp (i := y9_3) (by omega)
                                                            have hn := hp.1
                                                            obtain ⟨t, ht9⟩ := s_pd_g (L := s_PL D) (k := y9_3.toNatClampNeg) (by omega)
                                                            obtain ⟨v1, v2, v3⟩ := hp.2 _ t ht9
                                                            have ek := s_cp (y := y9_3) (z := z86) (by omega) (by omega)
                                                            have e33 : w22.toInt = t.1 := by rw [e22]; exact v1
                                                            have hk012 : t.1 = 0 ∨ t.1 = 1 := by rcases s_PL_LP _ t ht9 with ⟨h, -⟩ | ⟨h | h, -⟩ <;> omega
                                                            have hO := s_PD_O (q := D 4) hb hd hd.2.2.1.1
                                                            have hB := s_PD_B (q := D 4) hb hd ⟨hd.2.2.1.1, hd.2.2.1.2⟩
                                                            have hab := s_ac_b hO hB hx.2.1 hx.2.2 ht9 hk012
                                                            have hmt := s_pl_Lm hO (W := s_WD D) 241 0 0 0 0 (by decide) (by decide) hyes _ t ht9
                                                            have q1 := q65
                                                            have q2 := q67
                                                            have hcm : w65.toInt = s_cwm D t := by
                                                              rcases hk012 with h9 | h9
                                                              · exact (q1.1 (by omega)).trans (s_cm_S hx hp ht9 h9)
                                                              · exact (q1.2 (by omega)).trans (s_cm_C hx hp ht9 h9)
                                                            have hct : w67.toInt = s_ctw D t := by
                                                              rcases hk012 with h9 | h9
                                                              · exact (q2.1 (by omega)).trans (s_ct_S hx hp ht9 h9)
                                                              · exact (q2.2 (by omega)).trans (s_ct_C hx hp ht9 h9)
                                                            have em : w64.toInt = t.2.1 := by rw [e64]; exact v2
                                                            have es := s_sub e66 em hcm (by omega)
                                                            have hml := s_mul e68 es hct (by omega) (by omega)
                                                            have hvl : z68.toInt = s_vl D t := hml.1
                                                            have ewh : w62.toInt = t.2.2 := by rw [e62]; exact v3
                                                            have hnb : z63.toInt = s_nb t := by unfold s_nb; rw [if_neg (by omega)]; omega
                                                            have hX0 := s_DA_X g1
                                                            rw [ek]
                                                            rw [hnb, hvl]
                                                            exact ⟨⟨s_DA_y g1 (s_EN_s ht9 (by omega)) (by omega) (by omega), by omega⟩, hyes, hp, hx⟩) rfl
                  · have r87 : y9_1.toInt < z63.toInt := Int32.lt_iff_toInt_lt.mp (t_nle h83)
                    have u88 : y9_1.toInt ≤ 10 := t_ltu (t_nle h83) u63 rfl
                    refine ev_jmp f_X12_dearest (nx := 122) rfl rfl rfl ?_
                    refine ev_incR f_X12_dearest (nx := 125) (c := 1) (l := 1) (u := 100) rfl rfl (by decide) (by decide) l9_3 u20 rfl rfl (by decide) (by decide) rfl (fun z89 e89 l89 u89 => ?_)
                    refine ev_jmp f_X12_dearest (nx := 20) rfl rfl rfl ?_
                    refine ev_sub (lo := [(3, .int z89), (2, .int y9_2), (1, .int y9_1), (0, .ref 69)]) rfl (t_sc rfl (t_sc rfl (t_sc rfl (t_sc rfl t_sn)))) ?_
                    exact ih9 _ (by omega) (z89) (y9_2) (y9_1) (Int.le_trans (by decide : (0:Int) ≤ 1) l89) u89 (Int.le_trans (by decide : (0:Int) ≤ 1) l82) l9_1 (Int.le_trans u88 (by decide : (10:Int) ≤ 11)) (by
                                                            intro D hm hb hd h46 ht
                                                            obtain ⟨⟨g1, g2⟩, hyes, hp, hx⟩ := j9_0 D hm hb hd h46 ht
                                                            have ck := t_clamp (i := y9_3) (by omega)
                                                            have hn := hp.1
                                                            obtain ⟨t, ht9⟩ := s_pd_g (L := s_PL D) (k := y9_3.toNatClampNeg) (by omega)
                                                            obtain ⟨v1, v2, v3⟩ := hp.2 _ t ht9
                                                            have ek := s_cp (y := y9_3) (z := z89) (by omega) (by omega)
                                                            have e33 : w22.toInt = t.1 := by rw [e22]; exact v1
                                                            have hk012 : t.1 = 0 ∨ t.1 = 1 := by rcases s_PL_LP _ t ht9 with ⟨h, -⟩ | ⟨h | h, -⟩ <;> omega
                                                            have hO := s_PD_O (q := D 4) hb hd hd.2.2.1.1
                                                            have hB := s_PD_B (q := D 4) hb hd ⟨hd.2.2.1.1, hd.2.2.1.2⟩
                                                            have hab := s_ac_b hO hB hx.2.1 hx.2.2 ht9 hk012
                                                            have hmt := s_pl_Lm hO (W := s_WD D) 241 0 0 0 0 (by decide) (by decide) hyes _ t ht9
                                                            have q1 := q65
                                                            have q2 := q67
                                                            have hcm : w65.toInt = s_cwm D t := by
                                                              rcases hk012 with h9 | h9
                                                              · exact (q1.1 (by omega)).trans (s_cm_S hx hp ht9 h9)
                                                              · exact (q1.2 (by omega)).trans (s_cm_C hx hp ht9 h9)
                                                            have hct : w67.toInt = s_ctw D t := by
                                                              rcases hk012 with h9 | h9
                                                              · exact (q2.1 (by omega)).trans (s_ct_S hx hp ht9 h9)
                                                              · exact (q2.2 (by omega)).trans (s_ct_C hx hp ht9 h9)
                                                            have em : w64.toInt = t.2.1 := by rw [e64]; exact v2
                                                            have es := s_sub e66 em hcm (by omega)
                                                            have hml := s_mul e68 es hct (by omega) (by omega)
                                                            have hvl : z68.toInt = s_vl D t := hml.1
                                                            have ewh : w62.toInt = t.2.2 := by rw [e62]; exact v3
                                                            have hnb : z63.toInt = s_nb t := by unfold s_nb; rw [if_neg (by omega)]; omega
                                                            have hX0 := s_DA_X g1
                                                            rw [ek]
                                                            exact ⟨⟨s_DA_n g1 (fun n x hh => (s_EN_s ht9 (by omega) n x).mp hh) (fun n x hh => (s_EN_s ht9 (by omega) n x).mpr (Or.inl hh)) (by omega) (fun _ _ => by omega), by omega⟩, hyes, hp, hx⟩) rfl
                · have r90 : z68.toInt ≠ y9_2.toInt := t_nei h80
                  refine ev_loc f_X12_dearest (nx := 118) rfl rfl rfl rfl ?_
                  refine ev_loc f_X12_dearest (nx := 119) (lo' := [(2, .int z68), (5, .int z68), (4, .int z63), (3, .int y9_3), (1, .int y9_1), (0, .ref 69)]) rfl rfl rfl rfl ?_
                  refine ev_loc f_X12_dearest (nx := 121) rfl rfl rfl rfl ?_
                  refine ev_loc f_X12_dearest (nx := 122) (lo' := [(1, .int z63), (2, .int z68), (5, .int z68), (4, .int z63), (3, .int y9_3), (0, .ref 69)]) rfl rfl rfl rfl ?_
                  refine ev_incR f_X12_dearest (nx := 125) (c := 1) (l := 1) (u := 100) rfl rfl (by decide) (by decide) l9_3 u20 rfl rfl (by decide) (by decide) rfl (fun z91 e91 l91 u91 => ?_)
                  refine ev_jmp f_X12_dearest (nx := 20) rfl rfl rfl ?_
                  refine ev_sub (lo := [(3, .int z91), (2, .int z68), (1, .int z63), (0, .ref 69)]) rfl (t_sc rfl (t_sc rfl (t_sc rfl (t_sc rfl t_sn)))) ?_
                  exact ih9 _ (by omega) (z91) (z68) (z63) (Int.le_trans (by decide : (0:Int) ≤ 1) l91) u91 (Int.le_trans (by decide : (0:Int) ≤ 1) l79) (Int.le_trans (by decide : ((-1):Int) ≤ 5) l63) u63 (by
                                                            intro D hm hb hd h46 ht
                                                            obtain ⟨⟨g1, g2⟩, hyes, hp, hx⟩ := j9_0 D hm hb hd h46 ht
                                                            have ck := t_clamp (i := y9_3) (by omega)
                                                            have hn := hp.1
                                                            obtain ⟨t, ht9⟩ := s_pd_g (L := s_PL D) (k := y9_3.toNatClampNeg) (by omega)
                                                            obtain ⟨v1, v2, v3⟩ := hp.2 _ t ht9
                                                            have ek := s_cp (y := y9_3) (z := z91) (by omega) (by omega)
                                                            have e33 : w22.toInt = t.1 := by rw [e22]; exact v1
                                                            have hk012 : t.1 = 0 ∨ t.1 = 1 := by rcases s_PL_LP _ t ht9 with ⟨h, -⟩ | ⟨h | h, -⟩ <;> omega
                                                            have hO := s_PD_O (q := D 4) hb hd hd.2.2.1.1
                                                            have hB := s_PD_B (q := D 4) hb hd ⟨hd.2.2.1.1, hd.2.2.1.2⟩
                                                            have hab := s_ac_b hO hB hx.2.1 hx.2.2 ht9 hk012
                                                            have hmt := s_pl_Lm hO (W := s_WD D) 241 0 0 0 0 (by decide) (by decide) hyes _ t ht9
                                                            have q1 := q65
                                                            have q2 := q67
                                                            have hcm : w65.toInt = s_cwm D t := by
                                                              rcases hk012 with h9 | h9
                                                              · exact (q1.1 (by omega)).trans (s_cm_S hx hp ht9 h9)
                                                              · exact (q1.2 (by omega)).trans (s_cm_C hx hp ht9 h9)
                                                            have hct : w67.toInt = s_ctw D t := by
                                                              rcases hk012 with h9 | h9
                                                              · exact (q2.1 (by omega)).trans (s_ct_S hx hp ht9 h9)
                                                              · exact (q2.2 (by omega)).trans (s_ct_C hx hp ht9 h9)
                                                            have em : w64.toInt = t.2.1 := by rw [e64]; exact v2
                                                            have es := s_sub e66 em hcm (by omega)
                                                            have hml := s_mul e68 es hct (by omega) (by omega)
                                                            have hvl : z68.toInt = s_vl D t := hml.1
                                                            have ewh : w62.toInt = t.2.2 := by rw [e62]; exact v3
                                                            have hnb : z63.toInt = s_nb t := by unfold s_nb; rw [if_neg (by omega)]; omega
                                                            have hX0 := s_DA_X g1
                                                            rw [ek]
                                                            rw [hnb, hvl]
                                                            exact ⟨⟨s_DA_y g1 (s_EN_s ht9 (by omega)) (by omega) (by omega), by omega⟩, hyes, hp, hx⟩) rfl
    refine ev_sub (lo := [(3, .int 0), (2, .int 0), (1, .int (-1)), (0, .ref 69)]) rfl (t_sc rfl (t_sc rfl (t_sc rfl (t_sc rfl t_sn)))) ?_
    exact L9 _ (0) (0) ((-1)) (by decide : (0:Int) ≤ (0:Int32).toInt) (Int.le_trans (by decide : (0:Int32).toInt ≤ (0:Int)) (by decide : (0:Int) ≤ 100)) (by decide : (0:Int) ≤ (0:Int32).toInt) (by decide : ((-1):Int) ≤ ((-1):Int32).toInt) (Int.le_trans (by decide : ((-1):Int32).toInt ≤ ((-1):Int)) (by decide : ((-1):Int) ≤ 11)) (by
                                                            intro D hm hb hd h46 ht
                                                            have hq := q3.1 D hm hb hd h46 ht
                                                            have z1 : (1 : Int32).toInt = 1 := rfl
                                                            have z0 : (0 : Int32).toInt = 0 := rfl
                                                            obtain ⟨hp, -, hx⟩ := hq.2 (by omega)
                                                            exact ⟨⟨s_DA_0 s_EN_0, by omega⟩, hq.1.mp (by omega), hp, hx⟩) rfl
/-! ===== dearest: the answers are alike ===== -/
section DEAL
variable {sh : List (Nat ⊕ (Nat × Nat))} {gi g1 g2 : Nat → Nat → Int32} {gl l1 l2 : Nat → Nat → Int64} {gr r1 r2 : Nat → Nat → Value} {w1 : List (Nat × Nat)} {x1 x2 : Int32}
theorem t_L_dearest (hI : t_I sh gi gr) (hD : t_DR sh.length gi gl gr) (hK : t_KQ gi) (f1 : t_F w1 gi gl gr g1 l1 r1) (h70 : t_nc w1 70 = true) (hN1 : (g1 69 46).toInt = -1) (h4 : 1 ≤ (g1 70 4).toInt) (q1 : Q_d_dearest gi gl gr x1 g1 l1 r1) (q2 : Q_e_dearest g1 l1 r1 x2 g2 l2 r2) : x1 = x2 := by
  obtain ⟨u, D, hu, hl, hc, hb, hv, hsl, hd, htk, hm2⟩ := t_P_h hI hD hK f1 h70 h4
  have k1 := q1 u D hu hl hc hb hv hsl hd htk
  have k2 := q2 D hm2 hb hd hN1 htk
  apply Int32.toInt_inj.mp
  by_cases hy : s_LS (s_PD D (D 4)) 0 0 0 0 < 1000000000
  · obtain ⟨X, h1⟩ := k1.1 hy
    obtain ⟨X2, h2⟩ := k2.1 hy
    exact s_DA_u h1 h2
  · rw [k1.2 hy, k2.2 hy]
end DEAL
/-! ===== a text refused ahead: nothing of the FAULT is touched; rules() answers alike ===== -/
theorem c_n_begins0 {X : x_Ext} {d : Nat} {sh : List (Nat ⊕ (Nat × Nat))} {gi : Nat → Nat → Int32} {gl : Nat → Nat → Int64} {gr : Nat → Nat → Value} (hI : t_I sh gi gr) (ar1 ar2 : Int32) (hn : ¬ (0 ≤ ar1.toInt ∧ ar1.toInt ≤ (gi 69 10).toInt ∧ ar1.toInt ≤ ar2.toInt)) : x_Me X (d + 3) n_X12_begins [.ref 69, .int ar1, .int ar2] (sh, gi, gl, gr) (t_PI [] sh gi gl gr 0 0 (fun _ _ _ _ => True)) := by
  have kf0 : (0 : Int32).toInt = 0 := (by decide)
  refine me_i f_X12_begins (hI.wf.s rfl) rfl rfl rfl ?_
  refine ev_loc f_X12_begins (nx := 1) rfl rfl rfl rfl ?_
  refine ev_if f_X12_begins (t1 := 17) (t2 := 4) rfl rfl rfl (fun h1 => ?_) (fun h1 => ?_)
  · refine ev_ic f_X12_begins (nx := 18) (v := 0) rfl (by decide) rfl ?_
    exact ev_ret f_X12_begins rfl rfl rfl ⟨_, _, _, rfl, hI, t_X.rf, ⟨_, rfl, by decide, by decide, trivial⟩⟩
  have h1 := Int32.le_iff_toInt_le.mp (t_nlt h1)
  refine ev_loc f_X12_begins (nx := 5) rfl rfl rfl rfl ?_
  refine ev_loc f_X12_begins (nx := 6) rfl rfl rfl rfl ?_
  refine ev_gvI f_X12_begins (nx := 9) (w := (gi 69 10)) rfl (hI.wf.s rfl) rfl rfl rfl rfl ?_
  refine ev_if f_X12_begins (t1 := 17) (t2 := 12) rfl rfl rfl (fun h2 => ?_) (fun h2 => ?_)
  · refine ev_ic f_X12_begins (nx := 18) (v := 0) rfl (by decide) rfl ?_
    exact ev_ret f_X12_begins rfl rfl rfl ⟨_, _, _, rfl, hI, t_X.rf, ⟨_, rfl, by decide, by decide, trivial⟩⟩
  have h2 := Int32.le_iff_toInt_le.mp (t_nlt h2)
  refine ev_loc f_X12_begins (nx := 13) rfl rfl rfl rfl ?_
  refine ev_loc f_X12_begins (nx := 14) rfl rfl rfl rfl ?_
  refine ev_if f_X12_begins (t1 := 19) (t2 := 17) rfl rfl rfl (fun h3 => ?_) (fun h3 => ?_)
  · exact absurd (show (0 ≤ ar1.toInt ∧ ar1.toInt ≤ (gi 69 10).toInt ∧ ar1.toInt ≤ ar2.toInt) from ⟨by omega, by omega, Int32.le_iff_toInt_le.mp h3⟩) hn
  · refine ev_ic f_X12_begins (nx := 18) (v := 0) rfl (by decide) rfl ?_
    exact ev_ret f_X12_begins rfl rfl rfl ⟨_, _, _, rfl, hI, t_X.rf, ⟨_, rfl, by decide, by decide, trivial⟩⟩
theorem c_n_riverF {X : x_Ext} {d : Nat} {sh : List (Nat ⊕ (Nat × Nat))} {gi : Nat → Nat → Int32} {gl : Nat → Nat → Int64} {gr : Nat → Nat → Value} (hI : t_I sh gi gr) (ar1 : Int32) : x_Me X (d + 10) n_X12_river [.ref 69, .int ar1] (sh, gi, gl, gr) (t_PI wl_n_river sh gi gl gr (-1) 6 (fun v g l r => Q_n_river gi gl gr ar1 v g l r ∧ (¬ (0 ≤ ar1.toInt ∧ ar1.toInt ≤ (gi 69 10).toInt) → g 69 16 = gi 69 16 ∧ g 69 17 = gi 69 17))) := by
  by_cases hin : (0 ≤ ar1.toInt ∧ ar1.toInt ≤ (gi 69 10).toInt)
  · refine (c_n_river hI ar1).mono ?_
    rintro v G1 ⟨g1, l1, r1, rfl, k1, k2, x, rfl, a, b, q⟩
    exact ⟨g1, l1, r1, rfl, k1, k2, x, rfl, a, b, q, fun hh => absurd hin hh⟩
  have hX : t_X wl_n_river sh gi gl gr gi gl gr := t_X.rf
  have hu := hI.b (hI.wf.s (k := 69) rfl) (t_bdK rfl : t_bd 11 10 = some (0, 900))
  have km : (900 : Int32).toInt = 900 := rfl
  have kf0 : (0 : Int32).toInt = 0 := (by decide)
  refine me_i f_X12_river (hI.wf.s rfl) rfl rfl rfl ?_
  refine ev_loc f_X12_river (nx := 1) rfl rfl rfl rfl ?_
  refine ev_loc f_X12_river (nx := 2) rfl rfl rfl rfl ?_
  refine ev_sp f_X12_river (nx := 5) (v := 900) rfl (by decide) rfl ?_
  refine ev_qI0 f_X12_river (nx := 8) (r := []) rfl rfl rfl rfl rfl rfl rfl (c_n_begins0 hI ar1 900 (fun h => hin (by omega))) rfl (fun w lw uw _ => ?_)
  refine ev_if f_X12_river (t1 := 11) (t2 := 17) rfl rfl rfl (fun h3 => ?_) (fun h3 => ?_)
  rotate_left
  · exact absurd (Int32.toInt_inj.mp (by omega)) h3
  refine ev_loc f_X12_river (nx := 12) rfl rfl rfl rfl ?_
  refine ev_ic f_X12_river (nx := 13) (v := 1) rfl (by decide) rfl ?_
  refine ev_inV2 f_X12_river (nx := 16) (lo2 := [(0, .ref 69), (1, .int 1)]) rfl rfl rfl rfl f_X12_refuse (hI.wf.s rfl) rfl rfl rfl rfl rfl ?_
  refine ev_loc f_X12_refuse (nx := 1) rfl rfl rfl rfl ?_
  refine ev_loc f_X12_refuse (nx := 2) rfl rfl rfl rfl ?_
  refine ev_putIT f_X12_refuse (nx := 5) rfl (hI.wf.s rfl) rfl rfl rfl (hI.put0 (hI.wf.s rfl) rfl rfl) (hX.upI rfl) (fun g4 e4 hI hX => ?_)
  refine ev_ic f_X12_refuse (nx := 6) (v := -1) rfl (by decide) rfl ?_
  refine ev_retK1 f_X12_refuse rfl rfl rfl ?_
  exact ev_ret f_X12_river rfl rfl rfl ⟨_, _, _, rfl, hI, hX, ⟨_, rfl, by decide, by decide, And.intro (And.intro (fun hh => absurd hh hin) (fun _ => And.intro rfl (fun j _ => by rw [e4, x_up2_ne (by decide)]))) (fun _ => ⟨by rw [e4]; exact x_up2_off (Or.inr (by decide)), by rw [e4]; exact x_up2_off (Or.inr (by decide))⟩)⟩⟩
theorem c_n_rulesF {X : x_Ext} {d : Nat} {sh : List (Nat ⊕ (Nat × Nat))} {gi : Nat → Nat → Int32} {gl : Nat → Nat → Int64} {gr : Nat → Nat → Value} (hI : t_I sh gi gr) (ar1 : Int32) : x_Me X (d + 9) n_X12_rules [.ref 69, .int ar1] (sh, gi, gl, gr) (t_PI wl_n_rules sh gi gl gr (-1) 12 (fun v g l r => Q_n_rules gi gl gr ar1 v g l r ∧ (¬ (0 ≤ ar1.toInt ∧ ar1.toInt ≤ (gi 69 10).toInt ∧ ar1.toInt ≤ 300) → g 69 16 = gi 69 16 ∧ g 69 17 = gi 69 17))) := by
  by_cases hin : (0 ≤ ar1.toInt ∧ ar1.toInt ≤ (gi 69 10).toInt ∧ ar1.toInt ≤ 300)
  · refine (c_n_rules hI ar1).mono ?_
    rintro v G1 ⟨g1, l1, r1, rfl, k1, k2, x, rfl, a, b, q⟩
    exact ⟨g1, l1, r1, rfl, k1, k2, x, rfl, a, b, q, fun hh => absurd hin hh⟩
  have hX : t_X wl_n_rules sh gi gl gr gi gl gr := t_X.rf
  have hu := hI.b (hI.wf.s (k := 69) rfl) (t_bdK rfl : t_bd 11 10 = some (0, 900))
  have km : (300 : Int32).toInt = 300 := rfl
  have kf0 : (0 : Int32).toInt = 0 := (by decide)
  refine me_i f_X12_rules (hI.wf.s rfl) rfl rfl rfl ?_
  refine ev_loc f_X12_rules (nx := 1) rfl rfl rfl rfl ?_
  refine ev_loc f_X12_rules (nx := 2) rfl rfl rfl rfl ?_
  refine ev_sp f_X12_rules (nx := 5) (v := 300) rfl (by decide) rfl ?_
  refine ev_qI0 f_X12_rules (nx := 8) (r := []) rfl rfl rfl rfl rfl rfl rfl (c_n_begins0 hI ar1 300 (fun h => hin (by omega))) rfl (fun w lw uw _ => ?_)
  refine ev_if f_X12_rules (t1 := 11) (t2 := 17) rfl rfl rfl (fun h3 => ?_) (fun h3 => ?_)
  rotate_left
  · exact absurd (Int32.toInt_inj.mp (by omega)) h3
  refine ev_loc f_X12_rules (nx := 12) rfl rfl rfl rfl ?_
  refine ev_ic f_X12_rules (nx := 13) (v := 1) rfl (by decide) rfl ?_
  refine ev_inV2 f_X12_rules (nx := 16) (lo2 := [(0, .ref 69), (1, .int 1)]) rfl rfl rfl rfl f_X12_refuse (hI.wf.s rfl) rfl rfl rfl rfl rfl ?_
  refine ev_loc f_X12_refuse (nx := 1) rfl rfl rfl rfl ?_
  refine ev_loc f_X12_refuse (nx := 2) rfl rfl rfl rfl ?_
  refine ev_putIT f_X12_refuse (nx := 5) rfl (hI.wf.s rfl) rfl rfl rfl (hI.put0 (hI.wf.s rfl) rfl rfl) (hX.upI rfl) (fun g4 e4 hI hX => ?_)
  refine ev_ic f_X12_refuse (nx := 6) (v := -1) rfl (by decide) rfl ?_
  refine ev_retK1 f_X12_refuse rfl rfl rfl ?_
  exact ev_ret f_X12_rules rfl rfl rfl ⟨_, _, _, rfl, hI, hX, ⟨_, rfl, by decide, by decide, And.intro (And.intro (fun hh => absurd hh hin) (fun _ => And.intro rfl (And.intro (by rw [e4, x_up2_ne (by decide)]) (by rw [e4, x_up2_ne (by decide)])))) (fun _ => ⟨by rw [e4]; exact x_up2_off (Or.inr (by decide)), by rw [e4]; exact x_up2_off (Or.inr (by decide))⟩)⟩⟩
theorem c_s_riverF {X : x_Ext} {d : Nat} {sh : List (Nat ⊕ (Nat × Nat))} {gi : Nat → Nat → Int32} {gl : Nat → Nat → Int64} {gr : Nat → Nat → Value} (hI : t_I sh gi gr) (hH : t_H sh) (ar1 : Int32) : x_Me X (d + 11) n_X11_river [.ref 0, .int ar1] (sh, gi, gl, gr) (fun v G1 => ∃ sh1 g l r x, G1 = (sh1, g, l, r) ∧ v = some (.int x) ∧ (((0 ≤ ar1.toInt ∧ ar1.toInt ≤ (gi 0 5).toInt) → ∀ n : Nat, (n : Int) = ar1.toInt → t_RES gi gl gr sh.length (gi 2) n x g l r) ∧ (¬ (0 ≤ ar1.toInt ∧ ar1.toInt ≤ (gi 0 5).toInt) → x.toInt = -1 ∧ (∀ K, K ≠ 0 → g K = gi K ∧ l K = gl K ∧ r K = gr K) ∧ r 0 6 = gr 0 6 ∧ r 0 7 = gr 0 7) ∧ ((0 ≤ ar1.toInt ∧ ar1.toInt ≤ (gi 0 5).toInt) → sh.length + 18 ≤ sh1.length)) ∧ (¬ (0 ≤ ar1.toInt ∧ ar1.toInt ≤ (gi 0 5).toInt) → g 0 8 = gi 0 8 ∧ g 0 9 = gi 0 9)) := by
  by_cases hin : (0 ≤ ar1.toInt ∧ ar1.toInt ≤ (gi 0 5).toInt)
  · refine (c_s_river hI hH ar1).mono ?_
    rintro v G1 ⟨sh1, g, l, r, x, e1, e2, h⟩
    exact ⟨sh1, g, l, r, x, e1, e2, h, fun hh => absurd hin hh⟩
  have kf0 : (0 : Int32).toInt = 0 := (by decide)
  refine me_i f_X11_river (hI.wf.s rfl) rfl rfl rfl ?_
  refine ev_loc f_X11_river (nx := 1) rfl rfl rfl rfl ?_
  refine ev_if f_X11_river (t1 := 12) (t2 := 4) rfl rfl rfl (fun h1 => ?_) (fun h1 => ?_)
  · refine x_Ev.mono (x_Ev.up (c_t_riverN (d := d) hI ar1) (by omega)) ?_
    rintro v G1 ⟨g1, l1, r1, rfl, k1, k2, x, rfl, -, -, k3⟩
    exact ⟨sh, g1, l1, r1, x, rfl, rfl, ⟨fun hi => absurd hi hin, fun _ => ⟨k3, fun K hK => t_row0 k2 rfl hK, (k2.1 0 6 rfl).2.2, (k2.1 0 7 rfl).2.2⟩, fun hi => absurd hi hin⟩, fun _ => ⟨(k2.1 0 8 rfl).1, (k2.1 0 9 rfl).1⟩⟩
  have h1 := Int32.le_iff_toInt_le.mp (t_nlt h1)
  refine ev_loc f_X11_river (nx := 5) rfl rfl rfl rfl ?_
  refine ev_loc f_X11_river (nx := 6) rfl rfl rfl rfl ?_
  refine ev_getI f_X11_river (nx := 9) rfl (hI.wf.s rfl) rfl rfl rfl ?_
  refine ev_if f_X11_river (t1 := 18) (t2 := 12) rfl rfl rfl (fun h2 => ?_) (fun h2 => ?_)
  · exact absurd (show (0 ≤ ar1.toInt ∧ ar1.toInt ≤ (gi 0 5).toInt) from ⟨by omega, Int32.le_iff_toInt_le.mp h2⟩) hin
  · refine x_Ev.mono (x_Ev.up (c_t_riverN (d := d) hI ar1) (by omega)) ?_
    rintro v G1 ⟨g1, l1, r1, rfl, k1, k2, x, rfl, -, -, k3⟩
    exact ⟨sh, g1, l1, r1, x, rfl, rfl, ⟨fun hi => absurd hi hin, fun _ => ⟨k3, fun K hK => t_row0 k2 rfl hK, (k2.1 0 6 rfl).2.2, (k2.1 0 7 rfl).2.2⟩, fun hi => absurd hi hin⟩, fun _ => ⟨(k2.1 0 8 rfl).1, (k2.1 0 9 rfl).1⟩⟩
theorem c_u_rulesF {X : x_Ext} {d : Nat} {sh : List (Nat ⊕ (Nat × Nat))} {gi : Nat → Nat → Int32} {gl : Nat → Nat → Int64} {gr : Nat → Nat → Value} (hI : t_I sh gi gr) (hH : t_H sh) (ar1 : Int32) : x_Me X (d + 70) n_X11_rules [.ref 0, .int ar1] (sh, gi, gl, gr) (fun v G1 => ∃ sh1 g l r x, G1 = (sh1, g, l, r) ∧ v = some (.int x) ∧ (((0 ≤ ar1.toInt ∧ ar1.toInt ≤ (gi 0 5).toInt ∧ ar1.toInt ≤ 300) → ∀ n : Nat, (n : Int) = ar1.toInt → t_RSR gi gl gr sh.length (gi 2) n x g l r) ∧ (¬ (0 ≤ ar1.toInt ∧ ar1.toInt ≤ (gi 0 5).toInt ∧ ar1.toInt ≤ 300) → x.toInt = -1 ∧ (∀ K, K ≠ 0 → g K = gi K ∧ l K = gl K ∧ r K = gr K) ∧ r 0 6 = gr 0 6 ∧ r 0 7 = gr 0 7)) ∧ (¬ (0 ≤ ar1.toInt ∧ ar1.toInt ≤ (gi 0 5).toInt ∧ ar1.toInt ≤ 300) → g 0 8 = gi 0 8 ∧ g 0 9 = gi 0 9)) := by
  by_cases hin : (0 ≤ ar1.toInt ∧ ar1.toInt ≤ (gi 0 5).toInt ∧ ar1.toInt ≤ 300)
  · refine (c_u_rules hI hH ar1).mono ?_
    rintro v G1 ⟨sh1, g, l, r, x, e1, e2, h⟩
    exact ⟨sh1, g, l, r, x, e1, e2, h, fun hh => absurd hin hh⟩
  have kf0 : (0 : Int32).toInt = 0 := (by decide)
  refine me_i f_X11_rules (hI.wf.s rfl) rfl rfl rfl ?_
  refine ev_loc f_X11_rules (nx := 1) rfl rfl rfl rfl ?_
  refine ev_if f_X11_rules (t1 := 19) (t2 := 4) rfl rfl rfl (fun h1 => ?_) (fun h1 => ?_)
  · refine x_Ev.mono (x_Ev.up (c_t_rulesN (d := d) hI ar1) (by omega)) ?_
    rintro v G1 ⟨g1, l1, r1, rfl, k1, k2, x, rfl, -, -, k3⟩
    exact ⟨sh, g1, l1, r1, x, rfl, rfl, ⟨fun hi => absurd hi hin, fun _ => ⟨k3, fun K hK => t_row0 k2 rfl hK, (k2.1 0 6 rfl).2.2, (k2.1 0 7 rfl).2.2⟩⟩, fun _ => ⟨(k2.1 0 8 rfl).1, (k2.1 0 9 rfl).1⟩⟩
  have h1 := Int32.le_iff_toInt_le.mp (t_nlt h1)
  refine ev_loc f_X11_rules (nx := 5) rfl rfl rfl rfl ?_
  refine ev_loc f_X11_rules (nx := 6) rfl rfl rfl rfl ?_
  refine ev_getI f_X11_rules (nx := 9) rfl (hI.wf.s rfl) rfl rfl rfl ?_
  refine ev_if f_X11_rules (t1 := 19) (t2 := 12) rfl rfl rfl (fun h2 => ?_) (fun h2 => ?_)
  · refine x_Ev.mono (x_Ev.up (c_t_rulesN (d := d) hI ar1) (by omega)) ?_
    rintro v G1 ⟨g1, l1, r1, rfl, k1, k2, x, rfl, -, -, k3⟩
    exact ⟨sh, g1, l1, r1, x, rfl, rfl, ⟨fun hi => absurd hi hin, fun _ => ⟨k3, fun K hK => t_row0 k2 rfl hK, (k2.1 0 6 rfl).2.2, (k2.1 0 7 rfl).2.2⟩⟩, fun _ => ⟨(k2.1 0 8 rfl).1, (k2.1 0 9 rfl).1⟩⟩
  have h2 := Int32.le_iff_toInt_le.mp (t_nlt h2)
  refine ev_loc f_X11_rules (nx := 13) rfl rfl rfl rfl ?_
  refine ev_sp f_X11_rules (nx := 16) (v := 300) rfl (by decide) rfl ?_
  refine ev_if f_X11_rules (t1 := 25) (t2 := 19) rfl rfl rfl (fun h3 => ?_) (fun h3 => ?_)
  · have h3 := Int32.le_iff_toInt_le.mp h3
    have k3 : (300 : Int32).toInt = 300 := rfl
    exact absurd (show (0 ≤ ar1.toInt ∧ ar1.toInt ≤ (gi 0 5).toInt ∧ ar1.toInt ≤ 300) from ⟨by omega, by omega, by omega⟩) hin
  · refine x_Ev.mono (x_Ev.up (c_t_rulesN (d := d) hI ar1) (by omega)) ?_
    rintro v G1 ⟨g1, l1, r1, rfl, k1, k2, x, rfl, -, -, k3⟩
    exact ⟨sh, g1, l1, r1, x, rfl, rfl, ⟨fun hi => absurd hi hin, fun _ => ⟨k3, fun K hK => t_row0 k2 rfl hK, (k2.1 0 6 rfl).2.2, (k2.1 0 7 rfl).2.2⟩⟩, fun _ => ⟨(k2.1 0 8 rfl).1, (k2.1 0 9 rfl).1⟩⟩
section LRU
variable {gi g1 g2 : Nat → Nat → Int32} {gl l1 l2 : Nat → Nat → Int64} {gr r1 r2 : Nat → Nat → Value} {w1 w2 : List (Nat × Nat)} {A x1 x2 : Int32} {N N2 : Nat}
theorem s_rls_ob {b : Nat → Int32} {n p : Nat} {k : Nat} {x : Int} (hx : x ≠ 0) (h : (((0 : Int), (0 : Int)), k) = ((s_qb b n p x).1, 0)) : False :=
  s_fk_ne (b := b) (n := n) (p := p) hx (congrArg (fun r : (Int × Int) × Nat => r.1.1) h).symm
/-- what both come to -/
theorem t_RU_two (hT : t_TP gi) (hR : t_R gi gr) (f1 : t_F w1 gi gl gr g1 l1 r1) (h75 : t_nc w1 75 = true) (h69 : t_in w1 69 10 = false) (hin : 0 ≤ A.toInt ∧ A.toInt ≤ (gi 0 5).toInt ∧ A.toInt ≤ 300) (q1 : (0 ≤ A.toInt ∧ A.toInt ≤ (gi 0 5).toInt ∧ A.toInt ≤ 300) → ∀ n : Nat, (n : Int) = A.toInt → t_RSR gi gl gr N (gi 2) n x1 g1 l1 r1) (q2 : Q_n_rules g1 l1 r1 A x2 g2 l2 r2) : (∃ k : Nat, (x1.toInt = (k : Int) ∧ x2.toInt = (k : Int)) ∧ ((g1 0 8).toInt = 0 ∧ (g1 0 9).toInt = -1) ∧ ((g2 69 16).toInt = 0 ∧ (g2 69 17).toInt = -1) ∧ (r1 0 7 = .ref (N + 2) ∧ (g1 (N + 2) 0).toInt = (k : Int)) ∧ ((g2 70 3).toInt = (k : Int) ∧ (g2 70 8).toInt = 1)) ∨ ((x1.toInt = -1 ∧ x2.toInt = -1) ∧ ((g1 0 8).toInt = (g2 69 16).toInt ∧ (g1 0 9).toInt = (g2 69 17).toInt) ∧ r1 0 7 = gr 0 7 ∧ (g2 70 3 = g1 70 3 ∧ g2 70 8 = g1 70 8)) := by
  have e0 : (gi 0 5).toInt = (gi 69 10).toInt := congrArg Int32.toInt (t_R_fed hR)
  have e1 : (g1 69 10).toInt = (gi 69 10).toInt := congrArg Int32.toInt (f1 69 10 (by decide) h69).1
  have r75 : g1 75 = gi 75 := t_F_nc f1 h75 (by decide)
  obtain ⟨n, hn⟩ : ∃ n : Nat, (n : Int) = A.toInt := ⟨A.toInt.toNat, by omega⟩
  have k1 := (q1 hin n hn).1
  have k2 := q2.1 (by omega) (gi 2) n hn (fun j hj => by rw [r75]; exact (hT j (by omega)).1.symm) (fun j hj => (hT j (by omega)).2)
  rcases k1 with ⟨k, a1, a2, a3, a4, a5, a6, a7⟩ | ⟨p, x, a0, a1, a2, a3, a4, a5, a6⟩
  · rcases k2 with ⟨k', b1, b2, b3, b4, b5, b6⟩ | ⟨p', x', b0, b1, -⟩
    · have hk : k = k' := congrArg (fun r : (Int × Int) × Nat => r.2) (a1.symm.trans b1)
      subst hk
      exact Or.inl ⟨k, ⟨a2, b2⟩, ⟨a3, a4⟩, ⟨b4, b5⟩, ⟨a6, a7⟩, b3, b6⟩
    · exact (s_rls_ob b0 (a1.symm.trans b1)).elim
  · rcases k2 with ⟨k', b1, -⟩ | ⟨p', x', b0, b1, b2, b3, b4, b5⟩
    · exact (s_rls_ob a0 (b1.symm.trans a1)).elim
    · have h := a1.symm.trans b1
      have h1 : s_fk (gi 2) n p x = s_fk (gi 2) n p' x' := congrArg (fun r : (Int × Int) × Nat => r.1.1) h
      have h2 : ((s_F (gi 2) n p : Nat) : Int) = ((s_F (gi 2) n p' : Nat) : Int) := congrArg (fun r : (Int × Int) × Nat => r.1.2) h
      exact Or.inr ⟨⟨a2, b2⟩, ⟨by rw [a3, b3, h1], by rw [a4, b4, h2]⟩, a6, b5⟩
theorem t_L_rules (hT : t_TP gi) (hR : t_R gi gr) (f1 : t_F w1 gi gl gr g1 l1 r1) (h75 : t_nc w1 75 = true) (h69 : t_in w1 69 10 = false) (q1 : ((0 ≤ A.toInt ∧ A.toInt ≤ (gi 0 5).toInt ∧ A.toInt ≤ 300) → ∀ n : Nat, (n : Int) = A.toInt → t_RSR gi gl gr N (gi 2) n x1 g1 l1 r1) ∧ (¬ (0 ≤ A.toInt ∧ A.toInt ≤ (gi 0 5).toInt ∧ A.toInt ≤ 300) → x1.toInt = -1 ∧ (∀ K, K ≠ 0 → g1 K = gi K ∧ l1 K = gl K ∧ r1 K = gr K) ∧ r1 0 6 = gr 0 6 ∧ r1 0 7 = gr 0 7)) (q2 : Q_n_rules g1 l1 r1 A x2 g2 l2 r2) : x1 = x2 := by
  have e0 : (gi 0 5).toInt = (gi 69 10).toInt := congrArg Int32.toInt (t_R_fed hR)
  have e1 : (g1 69 10).toInt = (gi 69 10).toInt := congrArg Int32.toInt (f1 69 10 (by decide) h69).1
  apply Int32.toInt_inj.mp
  by_cases hin : 0 ≤ A.toInt ∧ A.toInt ≤ (gi 0 5).toInt ∧ A.toInt ≤ 300
  · rcases t_RU_two hT hR f1 h75 h69 hin q1.1 q2 with ⟨k, h, -⟩ | ⟨h, -⟩
    · rw [h.1, h.2]
    · rw [h.1, h.2]
  · rw [(q1.2 hin).1, (q2.2 (by omega)).1]
end LRU
/-! ===== printed by riv.py: what told() tells ===== -/
noncomputable def wl_d_told : List (Nat × Nat) := [(0, 0)]
noncomputable def Q_d_told (gi : Nat → Nat → Int32) (gl : Nat → Nat → Int64) (gr : Nat → Nat → Value) (ar1 : Int32) : Int32 → (Nat → Nat → Int32) → (Nat → Nat → Int64) → (Nat → Nat → Value) → Prop := fun (v : Int32) (gi2 : Nat → Nat → Int32) (gl2 : Nat → Nat → Int64) (gr2 : Nat → Nat → Value) => ∀ (u : Nat) (D : s_D), gr 0 6 = .ref u → t_VL gr u → t_CV gi gl u D → t_Cb D → ((ar1.toInt = 0 ∨ ar1.toInt = 1 ∨ ar1.toInt = 2 ∨ ar1.toInt = 4 ∨ ar1.toInt = 5 ∨ ar1.toInt = 6 ∨ ar1.toInt = 7) → v.toInt = D ar1.toInt.toNat) ∧ (ar1.toInt = 3 → (gr 0 7 = .null → v.toInt = 0) ∧ ∀ u2 : Nat, gr 0 7 = .ref u2 → v.toInt = (gi u2 0).toInt) ∧ (¬ (0 ≤ ar1.toInt ∧ ar1.toInt ≤ 7) → v.toInt = -1)
theorem c_d_told {X : x_Ext} {d : Nat} {sh : List (Nat ⊕ (Nat × Nat))} {gi : Nat → Nat → Int32} {gl : Nat → Nat → Int64} {gr : Nat → Nat → Value} (hI : t_I sh gi gr) (ar1 : Int32) : x_Me X (d + 2) n_X11_told [.ref 0, .int ar1] (sh, gi, gl, gr) (t_PI wl_d_told sh gi gl gr (-2147483648) 2147483647 (Q_d_told gi gl gr ar1)) := by
  have hX : t_X wl_d_told sh gi gl gr gi gl gr := t_X.rf
  refine me_i f_X11_told (hI.wf.s rfl) rfl rfl rfl ?_
  refine ev_loc f_X11_told (nx := 1) rfl rfl rfl rfl ?_
  have h1 : ar1.toInt = 0 ∨ ar1.toInt = 1 ∨ ar1.toInt = 2 ∨ ar1.toInt = 3 ∨ ar1.toInt = 4 ∨ ar1.toInt = 5 ∨ ar1.toInt = 6 ∨ ar1.toInt = 7 ∨ (ar1.toInt ≠ 0 ∧ ar1.toInt ≠ 1 ∧ ar1.toInt ≠ 2 ∧ ar1.toInt ≠ 3 ∧ ar1.toInt ≠ 4 ∧ ar1.toInt ≠ 5 ∧ ar1.toInt ≠ 6 ∧ ar1.toInt ≠ 7) := by have := (t_lo ar1); have := (t_hi ar1); omega
  rcases h1 with h1 | h1 | h1 | h1 | h1 | h1 | h1 | h1 | h1
  · refine ev_swt f_X11_told (nx := 48) (c := 0) rfl h1 rfl ?_
    refine ev_loc f_X11_told (nx := 49) rfl rfl rfl rfl ?_
    refine ev_loc f_X11_told (nx := 50) rfl rfl rfl rfl ?_
    obtain ⟨a2, e2, p2⟩ := hI.2.2.2.1.1
    refine ev_getR f_X11_told (nx := 53) rfl (hI.wf.s rfl) rfl rfl e2 rfl rfl ?_
    refine ev_getI f_X11_told (nx := 56) rfl p2.1 rfl rfl rfl ?_
    obtain ⟨l3, u3⟩ := hI.b p2.1 (t_bdK rfl : t_bd 4 0 = some (0, 6))
    refine ev_inV2 f_X11_told (nx := 59) (lo2 := [(0, .ref 0), (1, .int (gi a2 0))]) rfl rfl rfl rfl f_X11_answer (hI.wf.s rfl) rfl rfl rfl rfl rfl ?_
    refine ev_loc f_X11_answer (nx := 1) rfl rfl rfl rfl ?_
    refine ev_ic f_X11_answer (nx := 2) (v := 0) rfl (by decide) rfl ?_
    refine ev_putIT f_X11_answer (nx := 5) rfl (hI.wf.s rfl) rfl rfl rfl (hI.put0 (hI.wf.s rfl) rfl rfl) (hX.upI rfl) (fun g4 e4 hI hX => ?_)
    refine ev_loc f_X11_answer (nx := 6) rfl rfl rfl rfl ?_
    refine ev_retK1 f_X11_answer rfl rfl rfl ?_
    exact ev_ret f_X11_told rfl rfl rfl ⟨_, _, _, rfl, hI, hX, ⟨_, rfl, (Int.le_trans (by decide : ((-2147483648):Int) ≤ 0) l3), (Int.le_trans u3 (by decide : (6:Int) ≤ 2147483647)), (show ∀ (u : Nat) (D : s_D), gr 0 6 = .ref u → t_VL gr u → t_CV gi gl u D → t_Cb D → ((ar1.toInt = 0 ∨ ar1.toInt = 1 ∨ ar1.toInt = 2 ∨ ar1.toInt = 4 ∨ ar1.toInt = 5 ∨ ar1.toInt = 6 ∨ ar1.toInt = 7) → (gi a2 0).toInt = D ar1.toInt.toNat) ∧ (ar1.toInt = 3 → (gr 0 7 = .null → (gi a2 0).toInt = 0) ∧ ∀ u2 : Nat, gr 0 7 = .ref u2 → (gi a2 0).toInt = (gi u2 0).toInt) ∧ (¬ (0 ≤ ar1.toInt ∧ ar1.toInt ≤ 7) → (gi a2 0).toInt = -1) from (by
                                                            intro u D hu hl hc hb
                                                            have ha : a2 = u := Value.ref.inj (e2.symm.trans hu)
                                                            subst ha
                                                            exact ⟨fun _ => by rw [show ar1.toInt.toNat = 0 by omega]; exact hc.1.1, fun h => absurd h (by omega), fun h => absurd (show _ from ⟨by omega, by omega⟩) h⟩))⟩⟩
  · refine ev_swt f_X11_told (nx := 60) (c := 1) rfl h1 rfl ?_
    refine ev_loc f_X11_told (nx := 61) rfl rfl rfl rfl ?_
    refine ev_loc f_X11_told (nx := 62) rfl rfl rfl rfl ?_
    obtain ⟨a5, e5, p5⟩ := hI.2.2.2.1.1
    refine ev_getR f_X11_told (nx := 65) rfl (hI.wf.s rfl) rfl rfl e5 rfl rfl ?_
    obtain ⟨a6, e6, p6⟩ := p5.2.2.2.2.1
    refine ev_getR f_X11_told (nx := 68) rfl p5.1 rfl rfl e6 rfl rfl ?_
    refine ev_getI f_X11_told (nx := 71) rfl p6.1 rfl rfl rfl ?_
    obtain ⟨l7, u7⟩ := hI.b p6.1 (t_bdK rfl : t_bd 3 0 = some (0, 6))
    refine ev_inV2 f_X11_told (nx := 74) (lo2 := [(0, .ref 0), (1, .int (gi a6 0))]) rfl rfl rfl rfl f_X11_answer (hI.wf.s rfl) rfl rfl rfl rfl rfl ?_
    refine ev_loc f_X11_answer (nx := 1) rfl rfl rfl rfl ?_
    refine ev_ic f_X11_answer (nx := 2) (v := 0) rfl (by decide) rfl ?_
    refine ev_putIT f_X11_answer (nx := 5) rfl (hI.wf.s rfl) rfl rfl rfl (hI.put0 (hI.wf.s rfl) rfl rfl) (hX.upI rfl) (fun g8 e8 hI hX => ?_)
    refine ev_loc f_X11_answer (nx := 6) rfl rfl rfl rfl ?_
    refine ev_retK1 f_X11_answer rfl rfl rfl ?_
    exact ev_ret f_X11_told rfl rfl rfl ⟨_, _, _, rfl, hI, hX, ⟨_, rfl, (Int.le_trans (by decide : ((-2147483648):Int) ≤ 0) l7), (Int.le_trans u7 (by decide : (6:Int) ≤ 2147483647)), (show ∀ (u : Nat) (D : s_D), gr 0 6 = .ref u → t_VL gr u → t_CV gi gl u D → t_Cb D → ((ar1.toInt = 0 ∨ ar1.toInt = 1 ∨ ar1.toInt = 2 ∨ ar1.toInt = 4 ∨ ar1.toInt = 5 ∨ ar1.toInt = 6 ∨ ar1.toInt = 7) → (gi a6 0).toInt = D ar1.toInt.toNat) ∧ (ar1.toInt = 3 → (gr 0 7 = .null → (gi a6 0).toInt = 0) ∧ ∀ u2 : Nat, gr 0 7 = .ref u2 → (gi a6 0).toInt = (gi u2 0).toInt) ∧ (¬ (0 ≤ ar1.toInt ∧ ar1.toInt ≤ 7) → (gi a6 0).toInt = -1) from (by
                                                            intro u D hu hl hc hb
                                                            have ha : a5 = u := Value.ref.inj (e5.symm.trans hu)
                                                            subst ha
                                                            have hb1 : (a5 + 3) = a6 := Value.ref.inj ((hl.1.2.2.2.1).symm.trans e6)
                                                            subst hb1
                                                            exact ⟨fun _ => by rw [show ar1.toInt.toNat = 1 by omega]; exact hc.2.2.1.1, fun h => absurd h (by omega), fun h => absurd (show _ from ⟨by omega, by omega⟩) h⟩))⟩⟩
  · refine ev_swt f_X11_told (nx := 75) (c := 2) rfl h1 rfl ?_
    refine ev_loc f_X11_told (nx := 76) rfl rfl rfl rfl ?_
    refine ev_loc f_X11_told (nx := 77) rfl rfl rfl rfl ?_
    obtain ⟨a9, e9, p9⟩ := hI.2.2.2.1.1
    refine ev_getR f_X11_told (nx := 80) rfl (hI.wf.s rfl) rfl rfl e9 rfl rfl ?_
    obtain ⟨a10, e10, p10⟩ := p9.2.2.2.2.2
    refine ev_getR f_X11_told (nx := 83) rfl p9.1 rfl rfl e10 rfl rfl ?_
    refine ev_getI f_X11_told (nx := 86) rfl p10.1 rfl rfl rfl ?_
    obtain ⟨l11, u11⟩ := hI.b p10.1 (t_bdK rfl : t_bd 3 0 = some (0, 6))
    refine ev_inV2 f_X11_told (nx := 89) (lo2 := [(0, .ref 0), (1, .int (gi a10 0))]) rfl rfl rfl rfl f_X11_answer (hI.wf.s rfl) rfl rfl rfl rfl rfl ?_
    refine ev_loc f_X11_answer (nx := 1) rfl rfl rfl rfl ?_
    refine ev_ic f_X11_answer (nx := 2) (v := 0) rfl (by decide) rfl ?_
    refine ev_putIT f_X11_answer (nx := 5) rfl (hI.wf.s rfl) rfl rfl rfl (hI.put0 (hI.wf.s rfl) rfl rfl) (hX.upI rfl) (fun g12 e12 hI hX => ?_)
    refine ev_loc f_X11_answer (nx := 6) rfl rfl rfl rfl ?_
    refine ev_retK1 f_X11_answer rfl rfl rfl ?_
    exact ev_ret f_X11_told rfl rfl rfl ⟨_, _, _, rfl, hI, hX, ⟨_, rfl, (Int.le_trans (by decide : ((-2147483648):Int) ≤ 0) l11), (Int.le_trans u11 (by decide : (6:Int) ≤ 2147483647)), (show ∀ (u : Nat) (D : s_D), gr 0 6 = .ref u → t_VL gr u → t_CV gi gl u D → t_Cb D → ((ar1.toInt = 0 ∨ ar1.toInt = 1 ∨ ar1.toInt = 2 ∨ ar1.toInt = 4 ∨ ar1.toInt = 5 ∨ ar1.toInt = 6 ∨ ar1.toInt = 7) → (gi a10 0).toInt = D ar1.toInt.toNat) ∧ (ar1.toInt = 3 → (gr 0 7 = .null → (gi a10 0).toInt = 0) ∧ ∀ u2 : Nat, gr 0 7 = .ref u2 → (gi a10 0).toInt = (gi u2 0).toInt) ∧ (¬ (0 ≤ ar1.toInt ∧ ar1.toInt ≤ 7) → (gi a10 0).toInt = -1) from (by
                                                            intro u D hu hl hc hb
                                                            have ha : a9 = u := Value.ref.inj (e9.symm.trans hu)
                                                            subst ha
                                                            have hb1 : (a9 + 10) = a10 := Value.ref.inj ((hl.1.2.2.2.2).symm.trans e10)
                                                            subst hb1
                                                            exact ⟨fun _ => by rw [show ar1.toInt.toNat = 2 by omega]; exact hc.2.2.2.1, fun h => absurd h (by omega), fun h => absurd (show _ from ⟨by omega, by omega⟩) h⟩))⟩⟩
  · refine ev_swt f_X11_told (nx := 90) (c := 3) rfl h1 rfl ?_
    refine ev_loc f_X11_told (nx := 91) rfl rfl rfl rfl ?_
    refine ev_loc f_X11_told (nx := 92) rfl rfl rfl rfl ?_
    rcases hI.2.2.2.1.2.1 with e13 | ⟨a13, e13, p13⟩
    · refine ev_getR f_X11_told (nx := 95) rfl (hI.wf.s rfl) rfl rfl e13 rfl rfl ?_
      refine ev_jmp f_X11_told (nx := 98) rfl rfl rfl ?_
      refine ev_ic f_X11_told (nx := 99) (v := 0) rfl (by decide) rfl ?_
      refine ev_jmp f_X11_told (nx := 109) rfl rfl rfl ?_
      refine ev_inV2 f_X11_told (nx := 112) (lo2 := [(0, .ref 0), (1, .int 0)]) rfl rfl rfl rfl f_X11_answer (hI.wf.s rfl) rfl rfl rfl rfl rfl ?_
      refine ev_loc f_X11_answer (nx := 1) rfl rfl rfl rfl ?_
      refine ev_ic f_X11_answer (nx := 2) (v := 0) rfl (by decide) rfl ?_
      refine ev_putIT f_X11_answer (nx := 5) rfl (hI.wf.s rfl) rfl rfl rfl (hI.put0 (hI.wf.s rfl) rfl rfl) (hX.upI rfl) (fun g14 e14 hI hX => ?_)
      refine ev_loc f_X11_answer (nx := 6) rfl rfl rfl rfl ?_
      refine ev_retK1 f_X11_answer rfl rfl rfl ?_
      exact ev_ret f_X11_told rfl rfl rfl ⟨_, _, _, rfl, hI, hX, ⟨_, rfl, (Int.le_trans (by decide : ((-2147483648):Int) ≤ 0) (by decide : (0:Int) ≤ (0:Int32).toInt)), (Int.le_trans (by decide : (0:Int32).toInt ≤ (0:Int)) (by decide : (0:Int) ≤ 2147483647)), (show ∀ (u : Nat) (D : s_D), gr 0 6 = .ref u → t_VL gr u → t_CV gi gl u D → t_Cb D → ((ar1.toInt = 0 ∨ ar1.toInt = 1 ∨ ar1.toInt = 2 ∨ ar1.toInt = 4 ∨ ar1.toInt = 5 ∨ ar1.toInt = 6 ∨ ar1.toInt = 7) → (0 : Int) = D ar1.toInt.toNat) ∧ (ar1.toInt = 3 → (gr 0 7 = .null → (0 : Int) = 0) ∧ ∀ u2 : Nat, gr 0 7 = .ref u2 → (0 : Int) = (gi u2 0).toInt) ∧ (¬ (0 ≤ ar1.toInt ∧ ar1.toInt ≤ 7) → (0 : Int) = -1) from (by
                                                            intro u D hu hl hc hb
                                                            exact ⟨fun h => absurd h (by omega), fun _ => ⟨fun _ => rfl, fun u2 h2 => absurd (e13.symm.trans h2) (by intro hh; cases hh)⟩, fun h => absurd (show _ from ⟨by omega, by omega⟩) h⟩))⟩⟩
    · refine ev_getR f_X11_told (nx := 95) rfl (hI.wf.s rfl) rfl rfl e13 rfl rfl ?_
      refine ev_jmp f_X11_told (nx := 102) rfl rfl rfl ?_
      refine ev_loc f_X11_told (nx := 103) rfl rfl rfl rfl ?_
      refine ev_getR f_X11_told (nx := 106) (v := .ref a13) rfl (hI.wf.s rfl) rfl rfl e13 rfl rfl ?_
      refine ev_getI f_X11_told (nx := 109) rfl p13.1 rfl rfl rfl ?_
      obtain ⟨l15, u15⟩ := hI.b p13.1 (t_bdK rfl : t_bd 6 0 = some (0, 12))
      refine ev_inV2 f_X11_told (nx := 112) (lo2 := [(0, .ref 0), (1, .int (gi a13 0))]) rfl rfl rfl rfl f_X11_answer (hI.wf.s rfl) rfl rfl rfl rfl rfl ?_
      refine ev_loc f_X11_answer (nx := 1) rfl rfl rfl rfl ?_
      refine ev_ic f_X11_answer (nx := 2) (v := 0) rfl (by decide) rfl ?_
      refine ev_putIT f_X11_answer (nx := 5) rfl (hI.wf.s rfl) rfl rfl rfl (hI.put0 (hI.wf.s rfl) rfl rfl) (hX.upI rfl) (fun g16 e16 hI hX => ?_)
      refine ev_loc f_X11_answer (nx := 6) rfl rfl rfl rfl ?_
      refine ev_retK1 f_X11_answer rfl rfl rfl ?_
      exact ev_ret f_X11_told rfl rfl rfl ⟨_, _, _, rfl, hI, hX, ⟨_, rfl, (Int.le_trans (by decide : ((-2147483648):Int) ≤ 0) l15), (Int.le_trans u15 (by decide : (12:Int) ≤ 2147483647)), (show ∀ (u : Nat) (D : s_D), gr 0 6 = .ref u → t_VL gr u → t_CV gi gl u D → t_Cb D → ((ar1.toInt = 0 ∨ ar1.toInt = 1 ∨ ar1.toInt = 2 ∨ ar1.toInt = 4 ∨ ar1.toInt = 5 ∨ ar1.toInt = 6 ∨ ar1.toInt = 7) → (gi a13 0).toInt = D ar1.toInt.toNat) ∧ (ar1.toInt = 3 → (gr 0 7 = .null → (gi a13 0).toInt = 0) ∧ ∀ u2 : Nat, gr 0 7 = .ref u2 → (gi a13 0).toInt = (gi u2 0).toInt) ∧ (¬ (0 ≤ ar1.toInt ∧ ar1.toInt ≤ 7) → (gi a13 0).toInt = -1) from (by
                                                            intro u D hu hl hc hb
                                                            exact ⟨fun h => absurd h (by omega), fun _ => ⟨fun h0 => absurd (e13.symm.trans h0) (by intro hh; cases hh), fun u2 h2 => by have he := Value.ref.inj (e13.symm.trans h2); rw [← he]⟩, fun h => absurd (show _ from ⟨by omega, by omega⟩) h⟩))⟩⟩
  · refine ev_swt f_X11_told (nx := 113) (c := 4) rfl h1 rfl ?_
    refine ev_loc f_X11_told (nx := 114) rfl rfl rfl rfl ?_
    refine ev_loc f_X11_told (nx := 115) rfl rfl rfl rfl ?_
    obtain ⟨a17, e17, p17⟩ := hI.2.2.2.1.1
    refine ev_getR f_X11_told (nx := 118) rfl (hI.wf.s rfl) rfl rfl e17 rfl rfl ?_
    refine ev_getI f_X11_told (nx := 121) rfl p17.1 rfl rfl rfl ?_
    refine ev_inV2 f_X11_told (nx := 124) (lo2 := [(0, .ref 0), (1, .int (gi a17 3))]) rfl rfl rfl rfl f_X11_answer (hI.wf.s rfl) rfl rfl rfl rfl rfl ?_
    refine ev_loc f_X11_answer (nx := 1) rfl rfl rfl rfl ?_
    refine ev_ic f_X11_answer (nx := 2) (v := 0) rfl (by decide) rfl ?_
    refine ev_putIT f_X11_answer (nx := 5) rfl (hI.wf.s rfl) rfl rfl rfl (hI.put0 (hI.wf.s rfl) rfl rfl) (hX.upI rfl) (fun g18 e18 hI hX => ?_)
    refine ev_loc f_X11_answer (nx := 6) rfl rfl rfl rfl ?_
    refine ev_retK1 f_X11_answer rfl rfl rfl ?_
    exact ev_ret f_X11_told rfl rfl rfl ⟨_, _, _, rfl, hI, hX, ⟨_, rfl, (t_lo (gi a17 3)), (t_hi (gi a17 3)), (show ∀ (u : Nat) (D : s_D), gr 0 6 = .ref u → t_VL gr u → t_CV gi gl u D → t_Cb D → ((ar1.toInt = 0 ∨ ar1.toInt = 1 ∨ ar1.toInt = 2 ∨ ar1.toInt = 4 ∨ ar1.toInt = 5 ∨ ar1.toInt = 6 ∨ ar1.toInt = 7) → (gi a17 3).toInt = D ar1.toInt.toNat) ∧ (ar1.toInt = 3 → (gr 0 7 = .null → (gi a17 3).toInt = 0) ∧ ∀ u2 : Nat, gr 0 7 = .ref u2 → (gi a17 3).toInt = (gi u2 0).toInt) ∧ (¬ (0 ≤ ar1.toInt ∧ ar1.toInt ≤ 7) → (gi a17 3).toInt = -1) from (by
                                                            intro u D hu hl hc hb
                                                            have ha : a17 = u := Value.ref.inj (e17.symm.trans hu)
                                                            subst ha
                                                            exact ⟨fun _ => by rw [show ar1.toInt.toNat = 4 by omega]; exact hc.2.1.1, fun h => absurd h (by omega), fun h => absurd (show _ from ⟨by omega, by omega⟩) h⟩))⟩⟩
  · refine ev_swt f_X11_told (nx := 125) (c := 5) rfl h1 rfl ?_
    refine ev_loc f_X11_told (nx := 126) rfl rfl rfl rfl ?_
    refine ev_loc f_X11_told (nx := 127) rfl rfl rfl rfl ?_
    obtain ⟨a19, e19, p19⟩ := hI.2.2.2.1.1
    refine ev_getR f_X11_told (nx := 130) rfl (hI.wf.s rfl) rfl rfl e19 rfl rfl ?_
    refine ev_getI f_X11_told (nx := 133) rfl p19.1 rfl rfl rfl ?_
    refine ev_inV2 f_X11_told (nx := 136) (lo2 := [(0, .ref 0), (1, .int (gi a19 4))]) rfl rfl rfl rfl f_X11_answer (hI.wf.s rfl) rfl rfl rfl rfl rfl ?_
    refine ev_loc f_X11_answer (nx := 1) rfl rfl rfl rfl ?_
    refine ev_ic f_X11_answer (nx := 2) (v := 0) rfl (by decide) rfl ?_
    refine ev_putIT f_X11_answer (nx := 5) rfl (hI.wf.s rfl) rfl rfl rfl (hI.put0 (hI.wf.s rfl) rfl rfl) (hX.upI rfl) (fun g20 e20 hI hX => ?_)
    refine ev_loc f_X11_answer (nx := 6) rfl rfl rfl rfl ?_
    refine ev_retK1 f_X11_answer rfl rfl rfl ?_
    exact ev_ret f_X11_told rfl rfl rfl ⟨_, _, _, rfl, hI, hX, ⟨_, rfl, (t_lo (gi a19 4)), (t_hi (gi a19 4)), (show ∀ (u : Nat) (D : s_D), gr 0 6 = .ref u → t_VL gr u → t_CV gi gl u D → t_Cb D → ((ar1.toInt = 0 ∨ ar1.toInt = 1 ∨ ar1.toInt = 2 ∨ ar1.toInt = 4 ∨ ar1.toInt = 5 ∨ ar1.toInt = 6 ∨ ar1.toInt = 7) → (gi a19 4).toInt = D ar1.toInt.toNat) ∧ (ar1.toInt = 3 → (gr 0 7 = .null → (gi a19 4).toInt = 0) ∧ ∀ u2 : Nat, gr 0 7 = .ref u2 → (gi a19 4).toInt = (gi u2 0).toInt) ∧ (¬ (0 ≤ ar1.toInt ∧ ar1.toInt ≤ 7) → (gi a19 4).toInt = -1) from (by
                                                            intro u D hu hl hc hb
                                                            have ha : a19 = u := Value.ref.inj (e19.symm.trans hu)
                                                            subst ha
                                                            exact ⟨fun _ => by rw [show ar1.toInt.toNat = 5 by omega]; exact hc.2.1.2.1, fun h => absurd h (by omega), fun h => absurd (show _ from ⟨by omega, by omega⟩) h⟩))⟩⟩
  · refine ev_swt f_X11_told (nx := 137) (c := 6) rfl h1 rfl ?_
    refine ev_loc f_X11_told (nx := 138) rfl rfl rfl rfl ?_
    refine ev_loc f_X11_told (nx := 139) rfl rfl rfl rfl ?_
    obtain ⟨a21, e21, p21⟩ := hI.2.2.2.1.1
    refine ev_getR f_X11_told (nx := 142) rfl (hI.wf.s rfl) rfl rfl e21 rfl rfl ?_
    refine ev_getI f_X11_told (nx := 145) rfl p21.1 rfl rfl rfl ?_
    refine ev_inV2 f_X11_told (nx := 148) (lo2 := [(0, .ref 0), (1, .int (gi a21 5))]) rfl rfl rfl rfl f_X11_answer (hI.wf.s rfl) rfl rfl rfl rfl rfl ?_
    refine ev_loc f_X11_answer (nx := 1) rfl rfl rfl rfl ?_
    refine ev_ic f_X11_answer (nx := 2) (v := 0) rfl (by decide) rfl ?_
    refine ev_putIT f_X11_answer (nx := 5) rfl (hI.wf.s rfl) rfl rfl rfl (hI.put0 (hI.wf.s rfl) rfl rfl) (hX.upI rfl) (fun g22 e22 hI hX => ?_)
    refine ev_loc f_X11_answer (nx := 6) rfl rfl rfl rfl ?_
    refine ev_retK1 f_X11_answer rfl rfl rfl ?_
    exact ev_ret f_X11_told rfl rfl rfl ⟨_, _, _, rfl, hI, hX, ⟨_, rfl, (t_lo (gi a21 5)), (t_hi (gi a21 5)), (show ∀ (u : Nat) (D : s_D), gr 0 6 = .ref u → t_VL gr u → t_CV gi gl u D → t_Cb D → ((ar1.toInt = 0 ∨ ar1.toInt = 1 ∨ ar1.toInt = 2 ∨ ar1.toInt = 4 ∨ ar1.toInt = 5 ∨ ar1.toInt = 6 ∨ ar1.toInt = 7) → (gi a21 5).toInt = D ar1.toInt.toNat) ∧ (ar1.toInt = 3 → (gr 0 7 = .null → (gi a21 5).toInt = 0) ∧ ∀ u2 : Nat, gr 0 7 = .ref u2 → (gi a21 5).toInt = (gi u2 0).toInt) ∧ (¬ (0 ≤ ar1.toInt ∧ ar1.toInt ≤ 7) → (gi a21 5).toInt = -1) from (by
                                                            intro u D hu hl hc hb
                                                            have ha : a21 = u := Value.ref.inj (e21.symm.trans hu)
                                                            subst ha
                                                            exact ⟨fun _ => by rw [show ar1.toInt.toNat = 6 by omega]; exact hc.2.1.2.2.1, fun h => absurd h (by omega), fun h => absurd (show _ from ⟨by omega, by omega⟩) h⟩))⟩⟩
  · refine ev_swt f_X11_told (nx := 149) (c := 7) rfl h1 rfl ?_
    refine ev_loc f_X11_told (nx := 150) rfl rfl rfl rfl ?_
    refine ev_loc f_X11_told (nx := 151) rfl rfl rfl rfl ?_
    obtain ⟨a23, e23, p23⟩ := hI.2.2.2.1.1
    refine ev_getR f_X11_told (nx := 154) rfl (hI.wf.s rfl) rfl rfl e23 rfl rfl ?_
    refine ev_getI f_X11_told (nx := 157) rfl p23.1 rfl rfl rfl ?_
    refine ev_inV2 f_X11_told (nx := 160) (lo2 := [(0, .ref 0), (1, .int (gi a23 6))]) rfl rfl rfl rfl f_X11_answer (hI.wf.s rfl) rfl rfl rfl rfl rfl ?_
    refine ev_loc f_X11_answer (nx := 1) rfl rfl rfl rfl ?_
    refine ev_ic f_X11_answer (nx := 2) (v := 0) rfl (by decide) rfl ?_
    refine ev_putIT f_X11_answer (nx := 5) rfl (hI.wf.s rfl) rfl rfl rfl (hI.put0 (hI.wf.s rfl) rfl rfl) (hX.upI rfl) (fun g24 e24 hI hX => ?_)
    refine ev_loc f_X11_answer (nx := 6) rfl rfl rfl rfl ?_
    refine ev_retK1 f_X11_answer rfl rfl rfl ?_
    exact ev_ret f_X11_told rfl rfl rfl ⟨_, _, _, rfl, hI, hX, ⟨_, rfl, (t_lo (gi a23 6)), (t_hi (gi a23 6)), (show ∀ (u : Nat) (D : s_D), gr 0 6 = .ref u → t_VL gr u → t_CV gi gl u D → t_Cb D → ((ar1.toInt = 0 ∨ ar1.toInt = 1 ∨ ar1.toInt = 2 ∨ ar1.toInt = 4 ∨ ar1.toInt = 5 ∨ ar1.toInt = 6 ∨ ar1.toInt = 7) → (gi a23 6).toInt = D ar1.toInt.toNat) ∧ (ar1.toInt = 3 → (gr 0 7 = .null → (gi a23 6).toInt = 0) ∧ ∀ u2 : Nat, gr 0 7 = .ref u2 → (gi a23 6).toInt = (gi u2 0).toInt) ∧ (¬ (0 ≤ ar1.toInt ∧ ar1.toInt ≤ 7) → (gi a23 6).toInt = -1) from (by
                                                            intro u D hu hl hc hb
                                                            have ha : a23 = u := Value.ref.inj (e23.symm.trans hu)
                                                            subst ha
                                                            exact ⟨fun _ => by rw [show ar1.toInt.toNat = 7 by omega]; exact hc.2.1.2.2.2, fun h => absurd h (by omega), fun h => absurd (show _ from ⟨by omega, by omega⟩) h⟩))⟩⟩
  · refine ev_swtd f_X11_told (nx := 161) rfl (by omega) (by decide) rfl ?_
    refine ev_loc f_X11_told (nx := 162) rfl rfl rfl rfl ?_
    refine ev_ic f_X11_told (nx := 163) (v := 1) rfl (by decide) rfl ?_
    refine ev_inV2 f_X11_told (nx := 166) (lo2 := [(0, .ref 0), (1, .int 1)]) rfl rfl rfl rfl f_X11_refuse (hI.wf.s rfl) rfl rfl rfl rfl rfl ?_
    refine ev_loc f_X11_refuse (nx := 1) rfl rfl rfl rfl ?_
    refine ev_loc f_X11_refuse (nx := 2) rfl rfl rfl rfl ?_
    refine ev_putIT f_X11_refuse (nx := 5) rfl (hI.wf.s rfl) rfl rfl rfl (hI.put0 (hI.wf.s rfl) rfl rfl) (hX.upI rfl) (fun g25 e25 hI hX => ?_)
    refine ev_ic f_X11_refuse (nx := 6) (v := -1) rfl (by decide) rfl ?_
    refine ev_retK1 f_X11_refuse rfl rfl rfl ?_
    exact ev_ret f_X11_told rfl rfl rfl ⟨_, _, _, rfl, hI, hX, ⟨_, rfl, (Int.le_trans (by decide : ((-2147483648):Int) ≤ (-1)) (by decide : ((-1):Int) ≤ ((-1):Int32).toInt)), (Int.le_trans (by decide : ((-1):Int32).toInt ≤ ((-1):Int)) (by decide : ((-1):Int) ≤ 2147483647)), (show ∀ (u : Nat) (D : s_D), gr 0 6 = .ref u → t_VL gr u → t_CV gi gl u D → t_Cb D → ((ar1.toInt = 0 ∨ ar1.toInt = 1 ∨ ar1.toInt = 2 ∨ ar1.toInt = 4 ∨ ar1.toInt = 5 ∨ ar1.toInt = 6 ∨ ar1.toInt = 7) → ((-1) : Int) = D ar1.toInt.toNat) ∧ (ar1.toInt = 3 → (gr 0 7 = .null → ((-1) : Int) = 0) ∧ ∀ u2 : Nat, gr 0 7 = .ref u2 → ((-1) : Int) = (gi u2 0).toInt) ∧ (¬ (0 ≤ ar1.toInt ∧ ar1.toInt ≤ 7) → ((-1) : Int) = -1) from (by
                                                            intro u D hu hl hc hb
                                                            exact ⟨fun h => absurd h (by omega), fun h => absurd h (by omega), fun _ => rfl⟩))⟩⟩
noncomputable def wl_e_told : List (Nat × Nat) := [(69, 2)]
noncomputable def Q_e_told (gi : Nat → Nat → Int32) (gl : Nat → Nat → Int64) (gr : Nat → Nat → Value) (ar1 : Int32) : Int32 → (Nat → Nat → Int32) → (Nat → Nat → Int64) → (Nat → Nat → Value) → Prop := fun (v : Int32) (gi2 : Nat → Nat → Int32) (gl2 : Nat → Nat → Int64) (gr2 : Nat → Nat → Value) => (0 ≤ ar1.toInt ∧ ar1.toInt ≤ 7 → v.toInt = (gi 70 ar1.toInt.toNat).toInt) ∧ (¬ (0 ≤ ar1.toInt ∧ ar1.toInt ≤ 7) → v.toInt = -1)
theorem c_e_told {X : x_Ext} {d : Nat} {sh : List (Nat ⊕ (Nat × Nat))} {gi : Nat → Nat → Int32} {gl : Nat → Nat → Int64} {gr : Nat → Nat → Value} (hI : t_I sh gi gr) (ar1 : Int32) : x_Me X (d + 2) n_X12_told [.ref 69, .int ar1] (sh, gi, gl, gr) (t_PI wl_e_told sh gi gl gr (-1) 200 (Q_e_told gi gl gr ar1)) := by
  have hX : t_X wl_e_told sh gi gl gr gi gl gr := t_X.rf
  refine me_i f_X12_told (hI.wf.s rfl) rfl rfl rfl ?_
  refine ev_loc f_X12_told (nx := 1) rfl rfl rfl rfl ?_
  refine ev_if f_X12_told (t1 := 10) (t2 := 4) rfl rfl rfl (fun h1 => ?_) (fun h1 => ?_)
  · have u2 : ar1.toInt ≤ (-1) := t_ltu h1 (by decide : (0:Int32).toInt ≤ (0:Int)) rfl
    refine ev_loc f_X12_told (nx := 11) rfl rfl rfl rfl ?_
    refine ev_ic f_X12_told (nx := 12) (v := 1) rfl (by decide) rfl ?_
    refine ev_inV2 f_X12_told (nx := 15) (lo2 := [(0, .ref 69), (1, .int 1)]) rfl rfl rfl rfl f_X12_refuse (hI.wf.s rfl) rfl rfl rfl rfl rfl ?_
    refine ev_loc f_X12_refuse (nx := 1) rfl rfl rfl rfl ?_
    refine ev_loc f_X12_refuse (nx := 2) rfl rfl rfl rfl ?_
    refine ev_putIT f_X12_refuse (nx := 5) rfl (hI.wf.s rfl) rfl rfl rfl (hI.put0 (hI.wf.s rfl) rfl rfl) (hX.upI rfl) (fun g3 e3 hI hX => ?_)
    refine ev_ic f_X12_refuse (nx := 6) (v := -1) rfl (by decide) rfl ?_
    refine ev_retK1 f_X12_refuse rfl rfl rfl ?_
    refine ev_jmp f_X12_told (nx := 28) rfl rfl rfl ?_
    exact ev_ret f_X12_told rfl rfl rfl ⟨_, _, _, rfl, hI, hX, ⟨_, rfl, (by decide : ((-1):Int) ≤ ((-1):Int32).toInt), (Int.le_trans (by decide : ((-1):Int32).toInt ≤ ((-1):Int)) (by decide : ((-1):Int) ≤ 200)), (show (0 ≤ ar1.toInt ∧ ar1.toInt ≤ 7 → ((-1) : Int) = (gi 70 ar1.toInt.toNat).toInt) ∧ (¬ (0 ≤ ar1.toInt ∧ ar1.toInt ≤ 7) → ((-1) : Int) = -1) from ⟨fun h => absurd h (by omega), fun _ => rfl⟩)⟩⟩
  · have l4 : 0 ≤ ar1.toInt := t_lel (t_nlt h1) (by decide : (0:Int) ≤ (0:Int32).toInt)
    refine ev_loc f_X12_told (nx := 5) rfl rfl rfl rfl ?_
    refine ev_bp f_X12_told (nx := 7) (v := 7) rfl (by decide) rfl ?_
    refine ev_if f_X12_told (t1 := 18) (t2 := 10) rfl rfl rfl (fun h5 => ?_) (fun h5 => ?_)
    · have u6 : ar1.toInt ≤ 7 := t_leu h5 (by decide : (7:Int32).toInt ≤ (7:Int))
      refine ev_loc f_X12_told (nx := 19) rfl rfl rfl rfl ?_
      refine ev_loc f_X12_told (nx := 20) rfl rfl rfl rfl ?_
      refine ev_getR f_X12_told (nx := 23) rfl (hI.wf.s rfl) rfl rfl (hI.wf.r rfl) rfl rfl ?_
      refine ev_loc f_X12_told (nx := 24) rfl rfl rfl rfl ?_
      refine ev_ialdT f_X12_told (nx := 25) rfl (hI.wf.s rfl) l4 (by decide) u6 (by decide) rfl (fun w7 e7 => ?_)
      obtain ⟨l7, u7⟩ := hI.abi e7 (by decide +kernel : t_abr 70 0 7 0 200 = true) l4 (by decide) u6 (by decide)
      refine ev_inV2 f_X12_told (nx := 28) (lo2 := [(0, .ref 69), (1, .int w7)]) rfl rfl rfl rfl f_X12_gives (hI.wf.s rfl) rfl rfl rfl rfl rfl ?_
      refine ev_loc f_X12_gives (nx := 1) rfl rfl rfl rfl ?_
      refine ev_ic f_X12_gives (nx := 2) (v := 0) rfl (by decide) rfl ?_
      refine ev_putIT f_X12_gives (nx := 5) rfl (hI.wf.s rfl) rfl rfl rfl (hI.put0 (hI.wf.s rfl) rfl rfl) (hX.upI rfl) (fun g8 e8 hI hX => ?_)
      refine ev_loc f_X12_gives (nx := 6) rfl rfl rfl rfl ?_
      refine ev_retK1 f_X12_gives rfl rfl rfl ?_
      exact ev_ret f_X12_told rfl rfl rfl ⟨_, _, _, rfl, hI, hX, ⟨_, rfl, (Int.le_trans (by decide : ((-1):Int) ≤ 0) l7), u7, (show (0 ≤ ar1.toInt ∧ ar1.toInt ≤ 7 → w7.toInt = (gi 70 ar1.toInt.toNat).toInt) ∧ (¬ (0 ≤ ar1.toInt ∧ ar1.toInt ≤ 7) → w7.toInt = -1) from ⟨fun _ => (by have kc := t_clamp (i := ar1) (by omega); rw [e7, show ar1.toNatClampNeg = ar1.toInt.toNat by omega]), fun h => absurd (show _ from ⟨by omega, by omega⟩) h⟩)⟩⟩
    · have l9 : 8 ≤ ar1.toInt := t_ltl (t_nle h5) (by decide : (7:Int) ≤ (7:Int32).toInt) rfl
      refine ev_loc f_X12_told (nx := 11) rfl rfl rfl rfl ?_
      refine ev_ic f_X12_told (nx := 12) (v := 1) rfl (by decide) rfl ?_
      refine ev_inV2 f_X12_told (nx := 15) (lo2 := [(0, .ref 69), (1, .int 1)]) rfl rfl rfl rfl f_X12_refuse (hI.wf.s rfl) rfl rfl rfl rfl rfl ?_
      refine ev_loc f_X12_refuse (nx := 1) rfl rfl rfl rfl ?_
      refine ev_loc f_X12_refuse (nx := 2) rfl rfl rfl rfl ?_
      refine ev_putIT f_X12_refuse (nx := 5) rfl (hI.wf.s rfl) rfl rfl rfl (hI.put0 (hI.wf.s rfl) rfl rfl) (hX.upI rfl) (fun g10 e10 hI hX => ?_)
      refine ev_ic f_X12_refuse (nx := 6) (v := -1) rfl (by decide) rfl ?_
      refine ev_retK1 f_X12_refuse rfl rfl rfl ?_
      refine ev_jmp f_X12_told (nx := 28) rfl rfl rfl ?_
      exact ev_ret f_X12_told rfl rfl rfl ⟨_, _, _, rfl, hI, hX, ⟨_, rfl, (by decide : ((-1):Int) ≤ ((-1):Int32).toInt), (Int.le_trans (by decide : ((-1):Int32).toInt ≤ ((-1):Int)) (by decide : ((-1):Int) ≤ 200)), (show (0 ≤ ar1.toInt ∧ ar1.toInt ≤ 7 → ((-1) : Int) = (gi 70 ar1.toInt.toNat).toInt) ∧ (¬ (0 ≤ ar1.toInt ∧ ar1.toInt ≤ 7) → ((-1) : Int) = -1) from ⟨fun h => absurd h (by omega), fun _ => rfl⟩)⟩⟩
/-! ===== how many RULES there are: the same on both sides ===== -/
noncomputable def s_d3 (D : s_D) : Prop := D 3 = 0 ∧ D 8 = 0
section TLD
variable {b : Nat → Int32} {n p : Nat} {D : s_D} {lo hi : Int} {r r2 : s_R} {c : Prop}
theorem s_d3_if (h : c → s_d3 r.2.2) (h2 : ¬ c → s_d3 r2.2.2) : s_d3 (s_if c r r2).2.2 := by
  by_cases hc : c
  · rw [s_ifT hc]; exact h hc
  · rw [s_ifF hc]; exact h2 hc
theorem s_d3_kw {i : Nat} {k : Nat → s_R} (h : s_d3 D) (hk : ∀ q, s_d3 (k q).2.2) : s_d3 (s_kw b n p i D k).2.2 := s_d3_if (fun _ => hk _) (fun _ => h)
theorem s_d3_num {k : Nat → s_R} (h : s_d3 D) (hk : ∀ q, s_d3 (k q).2.2) : s_d3 (s_num b n p lo hi D k).2.2 := s_d3_if (fun _ => s_d3_if (fun _ => hk _) (fun _ => h)) (fun _ => h)
theorem s_d3_name {k : Nat → s_R} (h : s_d3 D) (hk : ∀ q, s_d3 (k q).2.2) : s_d3 (s_name b n p D k).2.2 := s_d3_if (fun _ => s_d3_if (fun _ => h) (fun _ => hk _)) (fun _ => h)
theorem s_d3_set {i : Nat} {v : Int} (h : s_d3 D) (hi : i ≠ 3 ∧ i ≠ 8) : s_d3 (s_set D i v) := ⟨(if_neg (fun e => hi.1 e.symm)).trans h.1, (if_neg (fun e => hi.2 e.symm)).trans h.2⟩
theorem s_d3_P {nm bl : Int} (h : s_d3 D) : s_d3 (s_addP D nm bl) := by
  have e : ∀ j, j = 3 ∨ j = 8 → s_addP D nm bl j = D j := fun j hj => by
    unfold s_addP; rw [if_neg (by omega), if_neg (by omega), if_neg (by omega)]
  exact ⟨(e 3 (Or.inl rfl)).trans h.1, (e 8 (Or.inr rfl)).trans h.2⟩
theorem s_d3_S {nm po at_ ta co sa : Int} (h : s_d3 D) : s_d3 (s_addS D nm po at_ ta co sa) := by
  have e : ∀ j, j = 3 ∨ j = 8 → s_addS D nm po at_ ta co sa j = D j := fun j hj => by
    unfold s_addS; rw [if_neg (by omega), if_neg (by omega), if_neg (by omega), if_neg (by omega), if_neg (by omega), if_neg (by omega), if_neg (by omega)]
  exact ⟨(e 3 (Or.inl rfl)).trans h.1, (e 8 (Or.inr rfl)).trans h.2⟩
theorem s_d3_C {nm at_ ta co : Int} (h : s_d3 D) : s_d3 (s_addC D nm at_ ta co) := by
  have e : ∀ j, j = 3 ∨ j = 8 → s_addC D nm at_ ta co j = D j := fun j hj => by
    unfold s_addC; rw [if_neg (by omega), if_neg (by omega), if_neg (by omega), if_neg (by omega), if_neg (by omega)]
  exact ⟨(e 3 (Or.inl rfl)).trans h.1, (e 8 (Or.inr rfl)).trans h.2⟩
theorem s_d3_come {k : Nat → Int → Int → Int → s_R} (h : s_d3 D) (hk : ∀ (q : Nat) (a t w : Int), s_d3 (k q a t w).2.2) : s_d3 (s_come b n p D k).2.2 :=
  s_d3_kw h fun _ => s_d3_num h fun _ => s_d3_kw h fun _ => s_d3_num h fun _ => s_d3_kw h fun _ => s_d3_num h fun _ => hk _ _ _ _
theorem s_d3_port (h : s_d3 D) : s_d3 (s_port b n p D).2.2 := s_d3_if (fun _ => h) fun _ => s_d3_name h fun _ => s_d3_kw h fun _ => s_d3_if (fun _ => s_d3_if (fun _ => h) fun _ => s_d3_P h) fun _ => h
theorem s_d3_turns (h : s_d3 D) : s_d3 (s_turns b n p D).2.2 := s_d3_if (fun _ => s_d3_num h fun _ => s_d3_set (s_d3_set h ⟨by decide, by decide⟩) ⟨by decide, by decide⟩) fun _ => h
theorem s_d3_frost (h : s_d3 D) : s_d3 (s_frost b n p D).2.2 := s_d3_if (fun _ => s_d3_num h fun _ => s_d3_kw h fun _ => s_d3_num h fun _ => s_d3_set (s_d3_set (s_d3_set h ⟨by decide, by decide⟩) ⟨by decide, by decide⟩) ⟨by decide, by decide⟩) fun _ => h
theorem s_d3_echo (h : s_d3 D) : s_d3 (s_echo b n p D).2.2 := s_d3_if (fun _ => s_d3_num h fun _ => s_d3_set (s_d3_set h ⟨by decide, by decide⟩) ⟨by decide, by decide⟩) fun _ => h
theorem s_d3_ship (h : s_d3 D) : s_d3 (s_ship b n p D).2.2 := s_d3_if (fun _ => h) fun _ => s_d3_name h fun _ => s_d3_kw h fun _ => s_d3_if (fun _ => s_d3_if (fun _ => h) fun _ => s_d3_come h fun _ _ _ _ => s_d3_if (fun _ => s_d3_S h) fun _ => s_d3_S h) fun _ => h
theorem s_d3_cart (h : s_d3 D) : s_d3 (s_cart b n p D).2.2 := s_d3_if (fun _ => h) fun _ => s_d3_name h fun _ => s_d3_come h fun _ _ _ _ => s_d3_C h
theorem s_d3_part (h : s_d3 D) : s_d3 (s_part b n p D).2.2 := s_d3_if (fun _ => s_d3_port h) fun _ => s_d3_if (fun _ => s_d3_turns h) fun _ => s_d3_if (fun _ => s_d3_frost h) fun _ => s_d3_if (fun _ => s_d3_echo h) fun _ => s_d3_if (fun _ => s_d3_ship h) fun _ => s_d3_if (fun _ => s_d3_cart h) fun _ => h
theorem s_d3_semi (h : s_d3 r.2.2) : s_d3 (s_semi b n r).2.2 := s_d3_if (fun _ => s_d3_if (fun _ => h) fun _ => h) fun _ => h
theorem s_d3_rv : ∀ (m p : Nat) (D : s_D), s_d3 D → s_d3 (s_rv b n m p D).2.2
  | 0, _, _, h => h
  | m + 1, p, D, h => s_d3_if (fun _ => h) fun _ => s_d3_if (fun _ => s_d3_rv m _ _ (s_d3_semi (s_d3_part h))) fun _ => s_d3_semi (s_d3_part h)
end TLD
noncomputable def t_RN (n : Nat) (gi : Nat → Nat → Int32) (v : Value) (o : Nat) : Prop := (v = .null ∧ (gi 70 (o + 3)).toInt = 0 ∧ (gi 70 (o + 8)).toInt = 0) ∨ ∃ u : Nat, v = .ref u ∧ (102 ≤ u ∧ u < n) ∧ (gi u 0).toInt = (gi 70 (o + 3)).toInt ∧ (gi 70 (o + 8)).toInt = 1
noncomputable def t_RnN (n : Nat) (gi : Nat → Nat → Int32) (gr : Nat → Nat → Value) : Prop := t_RN n gi (gr 0 7) 0 ∧ ∀ k : Nat, (k : Int) < (gi 0 12).toInt → t_RN n gi (gr 20 k) (350 * (k + 1))
noncomputable def t_LEo (c : Nat) (sh : List (Nat ⊕ (Nat × Nat))) (gi : Nat → Nat → Int32) (gl : Nat → Nat → Int64) (gr : Nat → Nat → Value) : Prop := t_LD c sh gi gl gr ∧ t_RnN sh.length gi gr
theorem W1_No {sh : List (Nat ⊕ (Nat × Nat))} {gi : Nat → Nat → Int32} {gl : Nat → Nat → Int64} {gr : Nat → Nat → Value} (hR : x_R W1 (sh, gi, gl, gr)) : t_RnN sh.length gi gr := by
  have h7 : gr 0 7 = .null := ((x_gc_R hR (c := w1_c0) rfl).2.2.2 7 (by decide)).2.2.trans rfl
  have h3 : gi 70 3 = x_cI w1_c70 3 := ((x_gc_R hR (c := w1_c70) rfl).2.2.2 _ (by decide)).1
  have h8 : gi 70 8 = x_cI w1_c70 8 := ((x_gc_R hR (c := w1_c70) rfl).2.2.2 _ (by decide)).1
  have h12 : gi 0 12 = x_cI w1_c0 12 := ((x_gc_R hR (c := w1_c0) rfl).2.2.2 _ (by decide)).1
  refine ⟨Or.inl ⟨h7, ?_, ?_⟩, fun k hk => ?_⟩
  · show (gi 70 3).toInt = 0
    rw [h3]; decide +kernel
  · show (gi 70 8).toInt = 0
    rw [h8]; decide +kernel
  · rw [h12] at hk
    have h0 : (x_cI w1_c0 12).toInt = 0 := by decide +kernel
    omega
noncomputable def t_rsB (w1 w2 : List (Nat × Nat)) : Bool := t_ndB w1 && (t_ndB w2 && (t_un w1 (0, 7) && (t_un w2 (0, 7) && (t_un w1 (0, 12) && (t_un w2 (0, 12) && (t_nc w1 20 && (t_nc w2 20 && t_nc w1 70)))))))
section TLR
variable {sh sh1 : List (Nat ⊕ (Nat × Nat))} {gi g1 g2 : Nat → Nat → Int32} {gl l1 l2 : Nat → Nat → Int64} {gr r1 r2 : Nat → Nat → Value} {w1 w2 : List (Nat × Nat)} {A x1 x2 : Int32} {n n' o o' N N2 : Nat} {v : Value}
theorem t_RN.mv (h : t_RN n gi v o) (hn : n ≤ n') (e : ∀ K, 102 ≤ K → K < n → g1 K = gi K) (em : g1 70 (o' + 3) = gi 70 (o + 3)) (e8 : g1 70 (o' + 8) = gi 70 (o + 8)) : t_RN n' g1 v o' := by
  rcases h with ⟨a, b, b8⟩ | ⟨u, a, ⟨c1, c2⟩, b, b8⟩
  · exact Or.inl ⟨a, by rw [em]; exact b, by rw [e8]; exact b8⟩
  · exact Or.inr ⟨u, a, ⟨c1, by omega⟩, by rw [e u c1 c2, em]; exact b, by rw [e8]; exact b8⟩
theorem t_RR_gen (h : t_RnN n gi gr) (hn : n ≤ n') (e : ∀ K, 102 ≤ K → K < n → g2 K = gi K) (e7 : r2 0 7 = gr 0 7) (e12 : g2 0 12 = gi 0 12) (e20 : r2 20 = gr 20) (em : ∀ j, j < 1400 → (j % 350 = 3 ∨ j % 350 = 8) → g2 70 j = gi 70 j) (hm : (gi 0 12).toInt ≤ 3) : t_RnN n' g2 r2 := by
  refine ⟨by rw [e7]; exact h.1.mv hn e (em _ (by omega) (by omega)) (em _ (by omega) (by omega)), fun k hk => ?_⟩
  rw [e12] at hk
  rw [e20]
  exact (h.2 k hk).mv hn e (em _ (by omega) (by omega)) (em _ (by omega) (by omega))
theorem t_RR_same (h : t_RnN sh.length gi gr) (x1 : t_X w1 sh gi gl gr g1 l1 r1) (x2 : t_X w2 sh g1 l1 r1 g2 l2 r2) (hw : t_rsB w1 w2 = true) (em : ∀ j, j < 1400 → g2 70 j = g1 70 j) (hm : (gi 0 12).toInt ≤ 3) : t_RnN sh.length g2 r2 := by
  unfold t_rsB at hw
  simp only [Bool.and_eq_true] at hw
  obtain ⟨a1, a2, a3, a4, a5, a6, a7, a8, a9⟩ := hw
  have f1 := t_F_X x1
  have f2 := t_F_X x2
  refine t_RR_gen h (Nat.le_refl _) (fun K k1 _ => ?_) ?_ ?_ ?_ (fun j hj _ => ?_) hm
  · exact (t_nd_fr x2 a2 K (Or.inr k1)).1.trans (t_nd_fr x1 a1 K (Or.inr k1)).1
  · rw [(f2 0 7 (by decide) (t_un_ok a4)).2.2, (f1 0 7 (by decide) (t_un_ok a3)).2.2]
  · rw [(f2 0 12 (by decide) (t_un_ok a6)).1, (f1 0 12 (by decide) (t_un_ok a5)).1]
  · rw [t_F_nr f2 a8 (by decide), t_F_nr f1 a7 (by decide)]
  · rw [em j hj, t_F_nc f1 a9 (by decide)]
/-- the other side's call leaves the class's cells -/
theorem t_RR_m (x : t_X w2 sh1 g1 l1 r1 g2 l2 r2) (hw : (t_ndB w2 && (t_un w2 (0, 7) && (t_un w2 (0, 12) && t_nc w2 20))) = true) : (∀ K, 102 ≤ K → g2 K = g1 K) ∧ r2 0 7 = r1 0 7 ∧ g2 0 12 = g1 0 12 ∧ r2 20 = r1 20 := by
  simp only [Bool.and_eq_true] at hw
  have f := t_F_X x
  exact ⟨fun K hK => (t_nd_fr x hw.1 K (Or.inr hK)).1, (f 0 7 (by decide) (t_un_ok hw.2.1)).2.2, (f 0 12 (by decide) (t_un_ok hw.2.2.1)).1, t_F_nr f hw.2.2.2 (by decide)⟩
theorem t_RR_rules (h : t_RnN sh.length gi gr) (hT : t_TP gi) (hR : t_R gi gr) (hI2 : t_I sh1 g2 r2) (hle : sh.length ≤ sh1.length) (hm3 : (gi 0 12).toInt ≤ 3) (f1 : t_F w1 gi gl gr g1 l1 r1) (hw1 : (t_nc w1 75 && (t_nc w1 70 && (t_nc w1 20 && t_un w1 (0, 12)))) = true) (h69 : t_in w1 69 10 = false) (xm : t_X w2 sh1 g1 l1 r1 g2 l2 r2) (hw2 : (t_ndB w2 && (t_un w2 (0, 7) && (t_un w2 (0, 12) && t_nc w2 20))) = true) (em : ∀ j, 350 ≤ j → j < 1400 → g2 70 j = g1 70 j) (q1 : ((0 ≤ A.toInt ∧ A.toInt ≤ (gi 0 5).toInt ∧ A.toInt ≤ 300) → ∀ n : Nat, (n : Int) = A.toInt → t_RSR gi gl gr sh.length (gi 2) n x1 g1 l1 r1) ∧ (¬ (0 ≤ A.toInt ∧ A.toInt ≤ (gi 0 5).toInt ∧ A.toInt ≤ 300) → x1.toInt = -1 ∧ (∀ K, K ≠ 0 → g1 K = gi K ∧ l1 K = gl K ∧ r1 K = gr K) ∧ r1 0 6 = gr 0 6 ∧ r1 0 7 = gr 0 7)) (q2 : Q_n_rules g1 l1 r1 A x2 g2 l2 r2) : t_RnN sh1.length g2 r2 := by
  simp only [Bool.and_eq_true] at hw1
  obtain ⟨n75, n70, n20, n12⟩ := hw1
  have e0 : (gi 0 5).toInt = (gi 69 10).toInt := congrArg Int32.toInt (t_R_fed hR)
  have e1 : (g1 69 10).toInt = (gi 69 10).toInt := congrArg Int32.toInt (f1 69 10 (by decide) h69).1
  have r70 : g1 70 = gi 70 := t_F_nc f1 n70 (by decide)
  have r12 : g1 0 12 = gi 0 12 := (f1 0 12 (by decide) (t_un_ok n12)).1
  have r20 : r1 20 = gr 20 := t_F_nr f1 n20 (by decide)
  obtain ⟨m0, m7, m12, m20⟩ := t_RR_m xm hw2
  have same : r1 0 7 = gr 0 7 → (g2 70 3 = g1 70 3 ∧ g2 70 8 = g1 70 8) → (∀ K, 102 ≤ K → K < sh.length → g1 K = gi K) → t_RnN sh1.length g2 r2 := by
    intro s7 s3 sK
    refine t_RR_gen h hle (fun K k1 k2 => (m0 K k1).trans (sK K k1 k2)) (m7.trans s7) (m12.trans r12) (m20.trans r20) (fun j hj h3 => ?_) hm3
    by_cases hj3 : j < 350
    · rcases h3 with h3 | h3
      · rw [show j = 3 by omega, s3.1, r70]
      · rw [show j = 8 by omega, s3.2, r70]
    · rw [em j (by omega) hj, r70]
  by_cases hin : 0 ≤ A.toInt ∧ A.toInt ≤ (gi 0 5).toInt ∧ A.toInt ≤ 300
  · obtain ⟨n, hn⟩ : ∃ n : Nat, (n : Int) = A.toInt := ⟨A.toInt.toNat, by omega⟩
    have pl := (q1.1 hin n hn).2
    have pl2 : ∀ K, 102 ≤ K → K < sh.length → g1 K = gi K := fun K a b => (pl K (by omega) b).1
    rcases t_RU_two hT hR f1 n75 h69 hin q1.1 q2 with ⟨k, _, _, _, ⟨c1, c2⟩, c3, c8⟩ | ⟨_, _, s7, s3⟩
    · have hr7 : r2 0 7 = .ref (sh.length + 2) := m7.trans c1
      have hb : 102 ≤ sh.length + 2 ∧ sh.length + 2 < sh1.length := by
        rcases hI2.2.2.2.1.2.1 with hh | ⟨a, ha, hp⟩
        · exact absurd (hr7.symm.trans hh) (by intro h9; cases h9)
        · have hk : sh.length + 2 = a := Value.ref.inj (hr7.symm.trans ha)
          subst hk
          exact ⟨hp.2.1, t_lt hp.1⟩
      refine ⟨Or.inr ⟨sh.length + 2, hr7, hb, ?_, c8⟩, fun j hj => ?_⟩
      · rw [m0 _ hb.1, c2]; exact c3.symm
      · rw [m12, r12] at hj
        rw [m20, r20]
        exact (h.2 j hj).mv hle (fun K k1 k2 => (m0 K k1).trans (pl2 K k1 k2)) (by rw [em _ (by omega) (by omega), r70]) (by rw [em _ (by omega) (by omega), r70])
    · exact same s7 s3 pl2
  · have hh := q1.2 hin
    exact same hh.2.2.2 (q2.2 (by omega)).2 (fun K a _ => (hh.2.1 K (by omega)).1)
theorem t_RR_river (h : t_RnN sh.length gi gr) (hT : t_TP gi) (hR : t_R gi gr) (hle : sh.length ≤ sh1.length) (hm3 : (gi 0 12).toInt ≤ 3) (f1 : t_F w1 gi gl gr g1 l1 r1) (hw1 : (t_nc w1 75 && (t_nc w1 70 && (t_nc w1 20 && t_un w1 (0, 12)))) = true) (h69 : t_in w1 69 10 = false) (xm : t_X w2 sh1 g1 l1 r1 g2 l2 r2) (hw2 : (t_ndB w2 && (t_un w2 (0, 7) && (t_un w2 (0, 12) && t_nc w2 20))) = true) (em : ∀ j, 350 ≤ j → j < 1400 → g2 70 j = g1 70 j) (q1 : ((0 ≤ A.toInt ∧ A.toInt ≤ (gi 0 5).toInt) → ∀ n : Nat, (n : Int) = A.toInt → t_RES gi gl gr sh.length (gi 2) n x1 g1 l1 r1) ∧ (¬ (0 ≤ A.toInt ∧ A.toInt ≤ (gi 0 5).toInt) → x1.toInt = -1 ∧ (∀ K, K ≠ 0 → g1 K = gi K ∧ l1 K = gl K ∧ r1 K = gr K) ∧ r1 0 6 = gr 0 6 ∧ r1 0 7 = gr 0 7) ∧ (0 ≤ A.toInt ∧ A.toInt ≤ (gi 0 5).toInt → sh.length + 18 ≤ sh1.length)) (q2 : Q_n_river g1 l1 r1 A x2 g2 l2 r2) : t_RnN sh1.length g2 r2 := by
  simp only [Bool.and_eq_true] at hw1
  obtain ⟨n75, n70, n20, n12⟩ := hw1
  have e0 : (gi 0 5).toInt = (gi 69 10).toInt := congrArg Int32.toInt (t_R_fed hR)
  have e1 : (g1 69 10).toInt = (gi 69 10).toInt := congrArg Int32.toInt (f1 69 10 (by decide) h69).1
  have r75 : g1 75 = gi 75 := t_F_nc f1 n75 (by decide)
  have r70 : g1 70 = gi 70 := t_F_nc f1 n70 (by decide)
  have r12 : g1 0 12 = gi 0 12 := (f1 0 12 (by decide) (t_un_ok n12)).1
  have r20 : r1 20 = gr 20 := t_F_nr f1 n20 (by decide)
  obtain ⟨m0, m7, m12, m20⟩ := t_RR_m xm hw2
  have same : r1 0 7 = gr 0 7 → (g2 70 3 = g1 70 3 ∧ g2 70 8 = g1 70 8) → (∀ K, 102 ≤ K → K < sh.length → g1 K = gi K) → t_RnN sh1.length g2 r2 := by
    intro s7 s3 sK
    refine t_RR_gen h hle (fun K k1 k2 => (m0 K k1).trans (sK K k1 k2)) (m7.trans s7) (m12.trans r12) (m20.trans r20) (fun j hj h3 => ?_) hm3
    by_cases hj3 : j < 350
    · rcases h3 with h3 | h3
      · rw [show j = 3 by omega, s3.1, r70]
      · rw [show j = 8 by omega, s3.2, r70]
    · rw [em j (by omega) hj, r70]
  by_cases hin : 0 ≤ A.toInt ∧ A.toInt ≤ (gi 0 5).toInt
  · obtain ⟨n, hn⟩ : ∃ n : Nat, (n : Int) = A.toInt := ⟨A.toInt.toNat, by omega⟩
    obtain ⟨p1, pl⟩ := q1.1 hin n hn
    have pl2 : ∀ K, 102 ≤ K → K < sh.length → g1 K = gi K := fun K a b => (pl K (by omega) b).1
    have p2 := q2.1 (by omega) (gi 2) n hn (fun j hj => by rw [r75]; exact (hT j (by omega)).1.symm) (fun j hj => (hT j (by omega)).2)
    rcases p1 with ⟨q, D, a1, a2, a3, a4, a5, a6, a7, a8⟩ | ⟨p, x, D, a0, a1, a2, a3, a4, a5, a6⟩
    · rcases p2 with ⟨q', D', b1, b2, b3, b4, b5, b6⟩ | ⟨p', x', D', b0, b1, -⟩
      · have hd : s_d3 D' := Eq.mp (congrArg (fun r : s_R => s_d3 r.2.2) b1) (s_d3_rv _ _ _ ⟨rfl, rfl⟩)
        refine ⟨Or.inl ⟨m7.trans a6, b4.2.2.2.2.1.trans hd.1, b4.2.2.2.2.2.trans hd.2⟩, fun j hj => ?_⟩
        rw [m12, r12] at hj
        rw [m20, r20]
        exact (h.2 j hj).mv hle (fun K k1 k2 => (m0 K k1).trans (pl2 K k1 k2)) (by rw [em _ (by omega) (by omega), r70]) (by rw [em _ (by omega) (by omega), r70])
      · exact (s_ok_bad b0 (a1.symm.trans b1)).elim
    · rcases p2 with ⟨q', D', b1, -⟩ | ⟨p', x', D', b0, b1, b2, b3, b4, b5⟩
      · exact (s_ok_bad a0 (b1.symm.trans a1)).elim
      · exact same a6 ⟨b5 3 (by decide), b5 8 (by decide)⟩ pl2
  · have hh := q1.2.1 hin
    exact same hh.2.2.2 ⟨(q2.2 (by omega)).2 3 (by decide), (q2.2 (by omega)).2 8 (by decide)⟩ (fun K a _ => (hh.2.1 K (by omega)).1)
theorem t_RR_mark (hR : t_R gi gr) (hS : t_RnN sh.length gi gr) (hm0 : 0 ≤ (gi 0 12).toInt) (hm3 : (gi 0 12).toInt ≤ 3) (xh : t_X w1 sh gi gl gr g1 l1 r1) (hw1 : (t_ndB w1 && (t_un w1 (0, 7) && (t_nc w1 70 && t_un w1 (69, 75)))) = true) (xm : t_X w2 sh g1 l1 r1 g2 l2 r2) (hw2 : (t_ndB w2 && (t_un w2 (0, 7) && (t_un w2 (0, 12) && t_nc w2 20))) = true) (hc : ((gi 0 12).toInt = 3 → (g1 0 12).toInt = 3) ∧ ((gi 0 12).toInt ≠ 3 → (g1 0 12).toInt = (gi 0 12).toInt + 1)) (q1 : Q_d_mark gi gl gr x1 g1 l1 r1) (q2 : ((g1 69 75).toInt = 3 → g2 70 = g1 70) ∧ ((g1 69 75).toInt ≠ 3 → ∀ j, g2 70 j = t_cpy (g1 70) 0 ((g1 69 75).toInt.toNat + 1) 350 j)) : t_RnN sh.length g2 r2 := by
  simp only [Bool.and_eq_true] at hw1
  obtain ⟨n0, n7, n70, n75⟩ := hw1
  have f1 := t_F_X xh
  have r7 : r1 0 7 = gr 0 7 := (f1 0 7 (by decide) (t_un_ok n7)).2.2
  have r70 : g1 70 = gi 70 := t_F_nc f1 n70 (by decide)
  have r75 : (g1 69 75).toInt = (gi 0 12).toInt := by rw [(f1 69 75 (by decide) (t_un_ok n75)).1, ← t_R_mk hR]
  obtain ⟨m0, m7, m12, m20⟩ := t_RR_m xm hw2
  have fr : ∀ K, 102 ≤ K → K < sh.length → g2 K = gi K := fun K k1 _ => (m0 K k1).trans (t_nd_fr xh n0 K (Or.inr k1)).1
  obtain ⟨d1, d2⟩ := q1
  by_cases h3 : (gi 0 12).toInt = 3
  · have e70 : ∀ j, g2 70 j = gi 70 j := fun j => by rw [q2.1 (by omega), r70]
    refine ⟨by rw [m7, r7]; exact hS.1.mv (Nat.le_refl _) fr (e70 _) (e70 _), fun k hk => ?_⟩
    rw [m12] at hk
    have h4 := hS.2 k (by have := hc.1 h3; omega)
    rw [m20, (d2 h3).2]
    exact h4.mv (Nat.le_refl _) fr (e70 _) (e70 _)
  · have e70 : ∀ j, g2 70 j = t_cpy (gi 70) 0 ((gi 0 12).toInt.toNat + 1) 350 j := fun j => by rw [q2.2 (by omega), r70, r75]
    have ec := hc.2 h3
    have off : ∀ j, (j < 350 * ((gi 0 12).toInt.toNat + 1) ∨ 350 * ((gi 0 12).toInt.toNat + 1) + 350 ≤ j) → g2 70 j = gi 70 j := fun j hj => by
      rw [e70]; unfold t_cpy; rw [if_neg (by omega)]
    refine ⟨by rw [m7, r7]; exact hS.1.mv (Nat.le_refl _) fr (off _ (by omega)) (off _ (by omega)), fun k hk => ?_⟩
    rw [m12] at hk
    by_cases hkm : (k : Int) = (gi 0 12).toInt
    · rw [m20, (d1 h3).2, if_pos hkm]
      refine hS.1.mv (Nat.le_refl _) fr ?_ ?_
      · rw [e70]; unfold t_cpy
        rw [if_pos (by omega), show 350 * (k + 1) + 3 - 350 * ((gi 0 12).toInt.toNat + 1) + 350 * 0 = 0 + 3 by omega]
      · rw [e70]; unfold t_cpy
        rw [if_pos (by omega), show 350 * (k + 1) + 8 - 350 * ((gi 0 12).toInt.toNat + 1) + 350 * 0 = 0 + 8 by omega]
    · have h4 := hS.2 k (by omega)
      rw [m20, (d1 h3).2, if_neg hkm]
      exact h4.mv (Nat.le_refl _) fr (off _ (by omega)) (off _ (by omega))
theorem t_RR_back (hR : t_R gi gr) (hS : t_RnN sh.length gi gr) (hm0 : 0 ≤ (gi 0 12).toInt) (hm3 : (gi 0 12).toInt ≤ 3) (xh : t_X w1 sh gi gl gr g1 l1 r1) (hw1 : (t_ndB w1 && (t_nc w1 20 && (t_nc w1 70 && t_un w1 (69, 75)))) = true) (xm : t_X w2 sh g1 l1 r1 g2 l2 r2) (hw2 : (t_ndB w2 && (t_un w2 (0, 7) && (t_un w2 (0, 12) && t_nc w2 20))) = true) (hc : ((gi 0 12).toInt = 0 → (g1 0 12).toInt = 0) ∧ ((gi 0 12).toInt ≠ 0 → (g1 0 12).toInt = (gi 0 12).toInt - 1)) (q1 : Q_d_back gi gl gr x1 g1 l1 r1) (q2 : ((g1 69 75).toInt = 0 → g2 70 = g1 70) ∧ ((g1 69 75).toInt ≠ 0 → ∀ j, g2 70 j = t_cpy (g1 70) (g1 69 75).toInt.toNat 0 350 j)) : t_RnN sh.length g2 r2 := by
  simp only [Bool.and_eq_true] at hw1
  obtain ⟨n0, n20, n70, n75⟩ := hw1
  have f1 := t_F_X xh
  have r20 : r1 20 = gr 20 := t_F_nr f1 n20 (by decide)
  have r70 : g1 70 = gi 70 := t_F_nc f1 n70 (by decide)
  have r75 : (g1 69 75).toInt = (gi 0 12).toInt := by rw [(f1 69 75 (by decide) (t_un_ok n75)).1, ← t_R_mk hR]
  obtain ⟨m0, m7, m12, m20⟩ := t_RR_m xm hw2
  have fr : ∀ K, 102 ≤ K → K < sh.length → g2 K = gi K := fun K k1 _ => (m0 K k1).trans (t_nd_fr xh n0 K (Or.inr k1)).1
  obtain ⟨d1, d2⟩ := q1
  by_cases h3 : (gi 0 12).toInt = 0
  · have e70 : ∀ j, g2 70 j = gi 70 j := fun j => by rw [q2.1 (by omega), r70]
    refine ⟨by rw [m7, (d1 h3).2]; exact hS.1.mv (Nat.le_refl _) fr (e70 _) (e70 _), fun k hk => ?_⟩
    rw [m12] at hk
    have := hc.1 h3
    omega
  · have e70 : ∀ j, g2 70 j = t_cpy (gi 70) (gi 0 12).toInt.toNat 0 350 j := fun j => by rw [q2.2 (by omega), r70, r75]
    have ec := hc.2 h3
    have off : ∀ j, 350 ≤ j → g2 70 j = gi 70 j := fun j hj => by
      rw [e70]; unfold t_cpy; rw [if_neg (by omega)]
    refine ⟨?_, fun k hk => ?_⟩
    · rw [m7, (d2 h3).2]
      refine (hS.2 ((gi 0 12).toInt - 1).toNat (by omega)).mv (Nat.le_refl _) fr ?_ ?_
      · rw [e70]; unfold t_cpy
        rw [if_pos (by omega), show 0 + 3 - 350 * 0 + 350 * (gi 0 12).toInt.toNat = 350 * (((gi 0 12).toInt - 1).toNat + 1) + 3 by omega]
      · rw [e70]; unfold t_cpy
        rw [if_pos (by omega), show 0 + 8 - 350 * 0 + 350 * (gi 0 12).toInt.toNat = 350 * (((gi 0 12).toInt - 1).toNat + 1) + 8 by omega]
    · rw [m12] at hk
      have h4 := hS.2 k (by omega)
      rw [m20, r20]
      exact h4.mv (Nat.le_refl _) fr (off _ (by omega)) (off _ (by omega))
theorem t_L_told (hD : t_DR sh.length gi gl gr) (hS : t_RnN sh.length gi gr) (f1 : t_F w1 gi gl gr g1 l1 r1) (h70 : t_nc w1 70 = true) (q1 : Q_d_told gi gl gr A x1 g1 l1 r1) (q2 : Q_e_told g1 l1 r1 A x2 g2 l2 r2) : x1 = x2 := by
  obtain ⟨u, D, hu, hl, hc, hb, hm, -⟩ := t_D_0 hD f1 h70
  have k1 := q1 u D hu hl hc hb
  have r70 : g1 70 = gi 70 := t_F_nc f1 h70 (by decide)
  apply Int32.toInt_inj.mp
  by_cases hin : 0 ≤ A.toInt ∧ A.toInt ≤ 7
  · rw [q2.1 hin]
    by_cases h3 : A.toInt = 3
    · rw [h3]
      show x1.toInt = (g1 70 3).toInt
      rw [r70]
      rcases hS.1 with ⟨a, b, -⟩ | ⟨u2, a, -, b, -⟩
      · rw [(k1.2.1 h3).1 a]; exact b.symm
      · rw [(k1.2.1 h3).2 u2 a]; exact b
    · rw [k1.1 (by omega)]
      have hA : A.toInt.toNat = 0 ∨ A.toInt.toNat = 1 ∨ A.toInt.toNat = 2 ∨ A.toInt.toNat = 4 ∨ A.toInt.toNat = 5 ∨ A.toInt.toNat = 6 ∨ A.toInt.toNat = 7 := by omega
      rcases hA with h | h | h | h | h | h | h
      · rw [h]; exact hm.1.1.1.symm
      · rw [h]; exact hm.1.1.2.1.symm
      · rw [h]; exact hm.1.1.2.2.symm
      · rw [h]; exact hm.1.2.1.symm
      · rw [h]; exact hm.1.2.2.1.symm
      · rw [h]; exact hm.1.2.2.2.1.symm
      · rw [h]; exact hm.1.2.2.2.2.symm
  · rw [k1.2.2 hin, q2.2 hin]
end TLR
/-! ===== printed by riv.py: what odds() answers ===== -/
noncomputable def wl_d_odds : List (Nat × Nat) := [(0, 0), (0, 1), (0, 2), (45, 4), (45, 5), (45, 6), (45, 7), (45, 8), (45, 9), (45, 10), (45, 11), (45, 12), (45, 13), (45, 14), (46, 0), (47, 9999), (48, 9999), (49, 9999), (50, 9999), (51, 9999), (52, 0), (53, 9999), (54, 9999), (55, 9999), (56, 9999), (57, 9999), (58, 9999), (59, 9999)]
noncomputable def Q_d_odds (gi : Nat → Nat → Int32) (gl : Nat → Nat → Int64) (gr : Nat → Nat → Value) (ar1 : Int32) (ar2 : Int32) : Int32 → (Nat → Nat → Int32) → (Nat → Nat → Int64) → (Nat → Nat → Value) → Prop := fun (v : Int32) (gi2 : Nat → Nat → Int32) (gl2 : Nat → Nat → Int64) (gr2 : Nat → Nat → Value) => ((0 ≤ ar1.toInt ∧ ar1.toInt ≤ 9999 ∧ 1 ≤ ar2.toInt ∧ ar2.toInt ≤ 20 ∧ ar1.toInt + ar2.toInt ≤ 10000) ∧ gr 0 7 ≠ .null → v.toInt = 1) ∧ (¬ ((0 ≤ ar1.toInt ∧ ar1.toInt ≤ 9999 ∧ 1 ≤ ar2.toInt ∧ ar2.toInt ≤ 20 ∧ ar1.toInt + ar2.toInt ≤ 10000) ∧ gr 0 7 ≠ .null) → v.toInt = 0)
theorem c_d_odds {X : x_Ext} {d : Nat} {sh : List (Nat ⊕ (Nat × Nat))} {gi : Nat → Nat → Int32} {gl : Nat → Nat → Int64} {gr : Nat → Nat → Value} (hI : t_I sh gi gr) (ar1 : Int32) (ar2 : Int32) : x_Me X (d + 6) n_X11_odds [.ref 0, .int ar1, .int ar2] (sh, gi, gl, gr) (t_PI wl_d_odds sh gi gl gr 0 1 (Q_d_odds gi gl gr ar1 ar2)) := by
  have hX : t_X wl_d_odds sh gi gl gr gi gl gr := t_X.rf
  refine me_i f_X11_odds (hI.wf.s rfl) rfl rfl rfl ?_
  refine ev_loc f_X11_odds (nx := 1) rfl rfl rfl rfl ?_
  refine ev_loc f_X11_odds (nx := 2) rfl rfl rfl rfl ?_
  refine ev_loc f_X11_odds (nx := 3) rfl rfl rfl rfl ?_
  refine ev_inV3 f_X11_odds (nx := 6) (lo2 := [(0, .ref 0), (1, .int ar1), (2, .int ar2)]) rfl rfl rfl rfl f_X11_wrongSeeds (hI.wf.s rfl) rfl rfl rfl rfl rfl ?_
  refine ev_loc f_X11_wrongSeeds (nx := 1) rfl rfl rfl rfl ?_
  refine ev_if f_X11_wrongSeeds (t1 := 33) (t2 := 4) rfl rfl rfl (fun h1 => ?_) (fun h1 => ?_)
  · have u2 : ar1.toInt ≤ (-1) := t_ltu h1 (by decide : (0:Int32).toInt ≤ (0:Int)) rfl
    refine ev_ic f_X11_wrongSeeds (nx := 34) (v := 1) rfl (by decide) rfl ?_
    refine ev_retK1 f_X11_wrongSeeds rfl rfl rfl ?_
    refine ev_loc f_X11_odds (nx := 7) (lo' := [(3, .int 1), (0, .ref 0), (1, .int ar1), (2, .int ar2)]) rfl rfl rfl rfl ?_
    refine ev_loc f_X11_odds (nx := 8) rfl rfl rfl rfl ?_
    refine ev_f f_X11_odds (t1 := 17) (t2 := 11) rfl rfl rfl (by decide) ?_
    refine ev_loc f_X11_odds (nx := 12) rfl rfl rfl rfl ?_
    refine ev_loc f_X11_odds (nx := 13) rfl rfl rfl rfl ?_
    refine ev_inV2 f_X11_odds (nx := 16) (lo2 := [(0, .ref 0), (1, .int 1)]) rfl rfl rfl rfl f_X11_deny (hI.wf.s rfl) rfl rfl rfl rfl rfl ?_
    refine ev_loc f_X11_deny (nx := 1) rfl rfl rfl rfl ?_
    refine ev_loc f_X11_deny (nx := 2) rfl rfl rfl rfl ?_
    refine ev_putIT f_X11_deny (nx := 5) rfl (hI.wf.s rfl) rfl rfl rfl (hI.put0 (hI.wf.s rfl) rfl rfl) (hX.upI rfl) (fun g3 e3 hI hX => ?_)
    refine ev_ic f_X11_deny (nx := 6) (v := 0) rfl (by decide) rfl ?_
    refine ev_retK1 f_X11_deny rfl rfl rfl ?_
    exact ev_ret f_X11_odds rfl rfl rfl ⟨_, _, _, rfl, hI, hX, ⟨_, rfl, (by decide : (0:Int) ≤ (0:Int32).toInt), (Int.le_trans (by decide : (0:Int32).toInt ≤ (0:Int)) (by decide : (0:Int) ≤ 1)), (show ((0 ≤ ar1.toInt ∧ ar1.toInt ≤ 9999 ∧ 1 ≤ ar2.toInt ∧ ar2.toInt ≤ 20 ∧ ar1.toInt + ar2.toInt ≤ 10000) ∧ gr 0 7 ≠ .null → (0 : Int) = 1) ∧ (¬ ((0 ≤ ar1.toInt ∧ ar1.toInt ≤ 9999 ∧ 1 ≤ ar2.toInt ∧ ar2.toInt ≤ 20 ∧ ar1.toInt + ar2.toInt ≤ 10000) ∧ gr 0 7 ≠ .null) → (0 : Int) = 0) from ⟨fun h => absurd h.1 (by omega), fun _ => rfl⟩)⟩⟩
  · have l4 : 0 ≤ ar1.toInt := t_lel (t_nlt h1) (by decide : (0:Int) ≤ (0:Int32).toInt)
    refine ev_loc f_X11_wrongSeeds (nx := 5) rfl rfl rfl rfl ?_
    refine ev_sp f_X11_wrongSeeds (nx := 8) (v := 9999) rfl (by decide) rfl ?_
    refine ev_if f_X11_wrongSeeds (t1 := 33) (t2 := 11) rfl rfl rfl (fun h5 => ?_) (fun h5 => ?_)
    · have l6 : 10000 ≤ ar1.toInt := t_ltl h5 (by decide : (9999:Int) ≤ (9999:Int32).toInt) rfl
      refine ev_ic f_X11_wrongSeeds (nx := 34) (v := 1) rfl (by decide) rfl ?_
      refine ev_retK1 f_X11_wrongSeeds rfl rfl rfl ?_
      refine ev_loc f_X11_odds (nx := 7) (lo' := [(3, .int 1), (0, .ref 0), (1, .int ar1), (2, .int ar2)]) rfl rfl rfl rfl ?_
      refine ev_loc f_X11_odds (nx := 8) rfl rfl rfl rfl ?_
      refine ev_f f_X11_odds (t1 := 17) (t2 := 11) rfl rfl rfl (by decide) ?_
      refine ev_loc f_X11_odds (nx := 12) rfl rfl rfl rfl ?_
      refine ev_loc f_X11_odds (nx := 13) rfl rfl rfl rfl ?_
      refine ev_inV2 f_X11_odds (nx := 16) (lo2 := [(0, .ref 0), (1, .int 1)]) rfl rfl rfl rfl f_X11_deny (hI.wf.s rfl) rfl rfl rfl rfl rfl ?_
      refine ev_loc f_X11_deny (nx := 1) rfl rfl rfl rfl ?_
      refine ev_loc f_X11_deny (nx := 2) rfl rfl rfl rfl ?_
      refine ev_putIT f_X11_deny (nx := 5) rfl (hI.wf.s rfl) rfl rfl rfl (hI.put0 (hI.wf.s rfl) rfl rfl) (hX.upI rfl) (fun g7 e7 hI hX => ?_)
      refine ev_ic f_X11_deny (nx := 6) (v := 0) rfl (by decide) rfl ?_
      refine ev_retK1 f_X11_deny rfl rfl rfl ?_
      exact ev_ret f_X11_odds rfl rfl rfl ⟨_, _, _, rfl, hI, hX, ⟨_, rfl, (by decide : (0:Int) ≤ (0:Int32).toInt), (Int.le_trans (by decide : (0:Int32).toInt ≤ (0:Int)) (by decide : (0:Int) ≤ 1)), (show ((0 ≤ ar1.toInt ∧ ar1.toInt ≤ 9999 ∧ 1 ≤ ar2.toInt ∧ ar2.toInt ≤ 20 ∧ ar1.toInt + ar2.toInt ≤ 10000) ∧ gr 0 7 ≠ .null → (0 : Int) = 1) ∧ (¬ ((0 ≤ ar1.toInt ∧ ar1.toInt ≤ 9999 ∧ 1 ≤ ar2.toInt ∧ ar2.toInt ≤ 20 ∧ ar1.toInt + ar2.toInt ≤ 10000) ∧ gr 0 7 ≠ .null) → (0 : Int) = 0) from ⟨fun h => absurd h.1 (by omega), fun _ => rfl⟩)⟩⟩
    · have u8 : ar1.toInt ≤ 9999 := t_leu (t_nlt h5) (by decide : (9999:Int32).toInt ≤ (9999:Int))
      refine ev_loc f_X11_wrongSeeds (nx := 12) rfl rfl rfl rfl ?_
      refine ev_ic f_X11_wrongSeeds (nx := 13) (v := 1) rfl (by decide) rfl ?_
      refine ev_if f_X11_wrongSeeds (t1 := 33) (t2 := 16) rfl rfl rfl (fun h9 => ?_) (fun h9 => ?_)
      · have u10 : ar2.toInt ≤ 0 := t_ltu h9 (by decide : (1:Int32).toInt ≤ (1:Int)) rfl
        refine ev_ic f_X11_wrongSeeds (nx := 34) (v := 1) rfl (by decide) rfl ?_
        refine ev_retK1 f_X11_wrongSeeds rfl rfl rfl ?_
        refine ev_loc f_X11_odds (nx := 7) (lo' := [(3, .int 1), (0, .ref 0), (1, .int ar1), (2, .int ar2)]) rfl rfl rfl rfl ?_
        refine ev_loc f_X11_odds (nx := 8) rfl rfl rfl rfl ?_
        refine ev_f f_X11_odds (t1 := 17) (t2 := 11) rfl rfl rfl (by decide) ?_
        refine ev_loc f_X11_odds (nx := 12) rfl rfl rfl rfl ?_
        refine ev_loc f_X11_odds (nx := 13) rfl rfl rfl rfl ?_
        refine ev_inV2 f_X11_odds (nx := 16) (lo2 := [(0, .ref 0), (1, .int 1)]) rfl rfl rfl rfl f_X11_deny (hI.wf.s rfl) rfl rfl rfl rfl rfl ?_
        refine ev_loc f_X11_deny (nx := 1) rfl rfl rfl rfl ?_
        refine ev_loc f_X11_deny (nx := 2) rfl rfl rfl rfl ?_
        refine ev_putIT f_X11_deny (nx := 5) rfl (hI.wf.s rfl) rfl rfl rfl (hI.put0 (hI.wf.s rfl) rfl rfl) (hX.upI rfl) (fun g11 e11 hI hX => ?_)
        refine ev_ic f_X11_deny (nx := 6) (v := 0) rfl (by decide) rfl ?_
        refine ev_retK1 f_X11_deny rfl rfl rfl ?_
        exact ev_ret f_X11_odds rfl rfl rfl ⟨_, _, _, rfl, hI, hX, ⟨_, rfl, (by decide : (0:Int) ≤ (0:Int32).toInt), (Int.le_trans (by decide : (0:Int32).toInt ≤ (0:Int)) (by decide : (0:Int) ≤ 1)), (show ((0 ≤ ar1.toInt ∧ ar1.toInt ≤ 9999 ∧ 1 ≤ ar2.toInt ∧ ar2.toInt ≤ 20 ∧ ar1.toInt + ar2.toInt ≤ 10000) ∧ gr 0 7 ≠ .null → (0 : Int) = 1) ∧ (¬ ((0 ≤ ar1.toInt ∧ ar1.toInt ≤ 9999 ∧ 1 ≤ ar2.toInt ∧ ar2.toInt ≤ 20 ∧ ar1.toInt + ar2.toInt ≤ 10000) ∧ gr 0 7 ≠ .null) → (0 : Int) = 0) from ⟨fun h => absurd h.1 (by omega), fun _ => rfl⟩)⟩⟩
      · have l12 : 1 ≤ ar2.toInt := t_lel (t_nlt h9) (by decide : (1:Int) ≤ (1:Int32).toInt)
        refine ev_loc f_X11_wrongSeeds (nx := 17) rfl rfl rfl rfl ?_
        refine ev_bp f_X11_wrongSeeds (nx := 19) (v := 20) rfl (by decide) rfl ?_
        refine ev_if f_X11_wrongSeeds (t1 := 33) (t2 := 22) rfl rfl rfl (fun h13 => ?_) (fun h13 => ?_)
        · have l14 : 21 ≤ ar2.toInt := t_ltl h13 (by decide : (20:Int) ≤ (20:Int32).toInt) rfl
          refine ev_ic f_X11_wrongSeeds (nx := 34) (v := 1) rfl (by decide) rfl ?_
          refine ev_retK1 f_X11_wrongSeeds rfl rfl rfl ?_
          refine ev_loc f_X11_odds (nx := 7) (lo' := [(3, .int 1), (0, .ref 0), (1, .int ar1), (2, .int ar2)]) rfl rfl rfl rfl ?_
          refine ev_loc f_X11_odds (nx := 8) rfl rfl rfl rfl ?_
          refine ev_f f_X11_odds (t1 := 17) (t2 := 11) rfl rfl rfl (by decide) ?_
          refine ev_loc f_X11_odds (nx := 12) rfl rfl rfl rfl ?_
          refine ev_loc f_X11_odds (nx := 13) rfl rfl rfl rfl ?_
          refine ev_inV2 f_X11_odds (nx := 16) (lo2 := [(0, .ref 0), (1, .int 1)]) rfl rfl rfl rfl f_X11_deny (hI.wf.s rfl) rfl rfl rfl rfl rfl ?_
          refine ev_loc f_X11_deny (nx := 1) rfl rfl rfl rfl ?_
          refine ev_loc f_X11_deny (nx := 2) rfl rfl rfl rfl ?_
          refine ev_putIT f_X11_deny (nx := 5) rfl (hI.wf.s rfl) rfl rfl rfl (hI.put0 (hI.wf.s rfl) rfl rfl) (hX.upI rfl) (fun g15 e15 hI hX => ?_)
          refine ev_ic f_X11_deny (nx := 6) (v := 0) rfl (by decide) rfl ?_
          refine ev_retK1 f_X11_deny rfl rfl rfl ?_
          exact ev_ret f_X11_odds rfl rfl rfl ⟨_, _, _, rfl, hI, hX, ⟨_, rfl, (by decide : (0:Int) ≤ (0:Int32).toInt), (Int.le_trans (by decide : (0:Int32).toInt ≤ (0:Int)) (by decide : (0:Int) ≤ 1)), (show ((0 ≤ ar1.toInt ∧ ar1.toInt ≤ 9999 ∧ 1 ≤ ar2.toInt ∧ ar2.toInt ≤ 20 ∧ ar1.toInt + ar2.toInt ≤ 10000) ∧ gr 0 7 ≠ .null → (0 : Int) = 1) ∧ (¬ ((0 ≤ ar1.toInt ∧ ar1.toInt ≤ 9999 ∧ 1 ≤ ar2.toInt ∧ ar2.toInt ≤ 20 ∧ ar1.toInt + ar2.toInt ≤ 10000) ∧ gr 0 7 ≠ .null) → (0 : Int) = 0) from ⟨fun h => absurd h.1 (by omega), fun _ => rfl⟩)⟩⟩
        · have u16 : ar2.toInt ≤ 20 := t_leu (t_nlt h13) (by decide : (20:Int32).toInt ≤ (20:Int))
          refine ev_loc f_X11_wrongSeeds (nx := 23) rfl rfl rfl rfl ?_
          refine ev_loc f_X11_wrongSeeds (nx := 24) rfl rfl rfl rfl ?_
          refine ev_addR f_X11_wrongSeeds (nx := 25) (l := 1) (u := 10019) rfl l4 u8 l12 u16 rfl rfl (by decide) (by decide) rfl (fun z17 e17 l17 u17 => ?_)
          refine ev_ic f_X11_wrongSeeds (nx := 26) (v := 1) rfl (by decide) rfl ?_
          refine ev_subC f_X11_wrongSeeds (nx := 27) (c := 1) (l := 0) (u := 10018) rfl (by decide) l17 u17 rfl rfl (by decide) (by decide) rfl (fun z18 e18 l18 u18 => ?_)
          refine ev_sp f_X11_wrongSeeds (nx := 30) (v := 9999) rfl (by decide) rfl ?_
          refine ev_if f_X11_wrongSeeds (t1 := 35) (t2 := 33) rfl rfl rfl (fun h19 => ?_) (fun h19 => ?_)
          · have u20 : z18.toInt ≤ 9999 := t_leu h19 (by decide : (9999:Int32).toInt ≤ (9999:Int))
            refine ev_loc f_X11_wrongSeeds (nx := 36) rfl rfl rfl rfl ?_
            rcases hI.2.2.2.1.2.1 with e21 | ⟨a21, e21, p21⟩
            · refine ev_getR f_X11_wrongSeeds (nx := 39) rfl (hI.wf.s rfl) rfl rfl e21 rfl rfl ?_
              refine ev_jmp f_X11_wrongSeeds (nx := 42) rfl rfl rfl ?_
              refine ev_bp f_X11_wrongSeeds (nx := 44) (v := 6) rfl (by decide) rfl ?_
              refine ev_jmp f_X11_wrongSeeds (nx := 48) rfl rfl rfl ?_
              refine ev_retK1 f_X11_wrongSeeds rfl rfl rfl ?_
              refine ev_loc f_X11_odds (nx := 7) (lo' := [(3, .int 6), (0, .ref 0), (1, .int ar1), (2, .int ar2)]) rfl rfl rfl rfl ?_
              refine ev_loc f_X11_odds (nx := 8) rfl rfl rfl rfl ?_
              refine ev_f f_X11_odds (t1 := 17) (t2 := 11) rfl rfl rfl (by decide) ?_
              refine ev_loc f_X11_odds (nx := 12) rfl rfl rfl rfl ?_
              refine ev_loc f_X11_odds (nx := 13) rfl rfl rfl rfl ?_
              refine ev_inV2 f_X11_odds (nx := 16) (lo2 := [(0, .ref 0), (1, .int 6)]) rfl rfl rfl rfl f_X11_deny (hI.wf.s rfl) rfl rfl rfl rfl rfl ?_
              refine ev_loc f_X11_deny (nx := 1) rfl rfl rfl rfl ?_
              refine ev_loc f_X11_deny (nx := 2) rfl rfl rfl rfl ?_
              refine ev_putIT f_X11_deny (nx := 5) rfl (hI.wf.s rfl) rfl rfl rfl (hI.put0 (hI.wf.s rfl) rfl rfl) (hX.upI rfl) (fun g22 e22 hI hX => ?_)
              refine ev_ic f_X11_deny (nx := 6) (v := 0) rfl (by decide) rfl ?_
              refine ev_retK1 f_X11_deny rfl rfl rfl ?_
              exact ev_ret f_X11_odds rfl rfl rfl ⟨_, _, _, rfl, hI, hX, ⟨_, rfl, (by decide : (0:Int) ≤ (0:Int32).toInt), (Int.le_trans (by decide : (0:Int32).toInt ≤ (0:Int)) (by decide : (0:Int) ≤ 1)), (show ((0 ≤ ar1.toInt ∧ ar1.toInt ≤ 9999 ∧ 1 ≤ ar2.toInt ∧ ar2.toInt ≤ 20 ∧ ar1.toInt + ar2.toInt ≤ 10000) ∧ gr 0 7 ≠ .null → (0 : Int) = 1) ∧ (¬ ((0 ≤ ar1.toInt ∧ ar1.toInt ≤ 9999 ∧ 1 ≤ ar2.toInt ∧ ar2.toInt ≤ 20 ∧ ar1.toInt + ar2.toInt ≤ 10000) ∧ gr 0 7 ≠ .null) → (0 : Int) = 0) from ⟨fun h => absurd e21 h.2, fun _ => rfl⟩)⟩⟩
            · refine ev_getR f_X11_wrongSeeds (nx := 39) rfl (hI.wf.s rfl) rfl rfl e21 rfl rfl ?_
              refine ev_jmp f_X11_wrongSeeds (nx := 47) rfl rfl rfl ?_
              refine ev_ic f_X11_wrongSeeds (nx := 48) (v := 0) rfl (by decide) rfl ?_
              refine ev_retK1 f_X11_wrongSeeds rfl rfl rfl ?_
              refine ev_loc f_X11_odds (nx := 7) (lo' := [(3, .int 0), (0, .ref 0), (1, .int ar1), (2, .int ar2)]) rfl rfl rfl rfl ?_
              refine ev_loc f_X11_odds (nx := 8) rfl rfl rfl rfl ?_
              refine ev_t f_X11_odds (t1 := 17) (t2 := 11) rfl rfl rfl (by decide) ?_
              refine ev_ic f_X11_odds (nx := 18) (v := 0) rfl (by decide) rfl ?_
              refine ev_loc f_X11_odds (nx := 20) (lo' := [(4, .int 0), (3, .int 0), (0, .ref 0), (1, .int ar1), (2, .int ar2)]) rfl rfl rfl rfl ?_
              refine ev_ic f_X11_odds (nx := 21) (v := 0) rfl (by decide) rfl ?_
              refine ev_loc f_X11_odds (nx := 23) (lo' := [(5, .int 0), (4, .int 0), (3, .int 0), (0, .ref 0), (1, .int ar1), (2, .int ar2)]) rfl rfl rfl rfl ?_
              have L23 : ∀ (m23 : Nat) (gi23 : Nat → Nat → Int32) (gl23 : Nat → Nat → Int64) (gr23 : Nat → Nat → Value) (y23_5 : Int32) (y23_4 : Int32), t_I sh gi23 gr23 → t_X wl_d_odds sh gi gl gr gi23 gl23 gr23 → t_Ru sh gr23 a21 → 0 ≤ y23_5.toInt → y23_5.toInt ≤ 20 → gr23 0 7 = .ref a21 → (20 - y23_5.toInt).toNat = m23 → x_Ev X (d + 6) n_X11_odds 23 [(5, .int y23_5), (4, .int y23_4), (3, .int 0), (0, .ref 0), (1, .int ar1), (2, .int ar2)] [] (sh, gi23, gl23, gr23) (t_PI wl_d_odds sh gi gl gr 0 1 (Q_d_odds gi gl gr ar1 ar2)) := by
                intro m23
                induction m23 using Nat.strongRecOn with
                | _ m23 ih23 =>
                intro gi23 gl23 gr23 y23_5 y23_4 hI hX p21 l23_5 u23_5 c23_0 hm23
                refine ev_loc f_X11_odds (nx := 25) rfl rfl rfl rfl ?_
                refine ev_loc f_X11_odds (nx := 26) rfl rfl rfl rfl ?_
                refine ev_if f_X11_odds (t1 := 77) (t2 := 29) rfl rfl rfl (fun h24 => ?_) (fun h24 => ?_)
                · have r25 : ar2.toInt ≤ y23_5.toInt := Int32.le_iff_toInt_le.mp h24
                  have l26 : 1 ≤ y23_5.toInt := t_lel h24 l12
                  refine ev_loc f_X11_odds (nx := 78) rfl rfl rfl rfl ?_
                  refine ev_loc f_X11_odds (nx := 80) rfl rfl rfl rfl ?_
                  refine ev_loc f_X11_odds (nx := 81) rfl rfl rfl rfl ?_
                  refine ev_c0 f_X11_odds (nx := 84) (r := []) rfl rfl rfl rfl rfl rfl rfl (c_tellFraction hI (y23_4) (ar2)) rfl hX rfl (fun gi27 gl27 gr27 hI hX hC27 => ?_)
                  replace p21 := p21.ext hC27.2
                  refine ev_loc f_X11_odds (nx := 85) rfl rfl rfl rfl ?_
                  refine ev_inV1 f_X11_odds (nx := 88) (lo2 := [(0, .ref 0)]) rfl rfl rfl rfl f_X11_grant (hI.wf.s rfl) rfl rfl rfl rfl rfl ?_
                  refine ev_loc f_X11_grant (nx := 1) rfl rfl rfl rfl ?_
                  refine ev_ic f_X11_grant (nx := 2) (v := 0) rfl (by decide) rfl ?_
                  refine ev_putIT f_X11_grant (nx := 5) rfl (hI.wf.s rfl) rfl rfl rfl (hI.put0 (hI.wf.s rfl) rfl rfl) (hX.upI rfl) (fun g28 e28 hI hX => ?_)
                  refine ev_ic f_X11_grant (nx := 6) (v := 1) rfl (by decide) rfl ?_
                  refine ev_retK1 f_X11_grant rfl rfl rfl ?_
                  exact ev_ret f_X11_odds rfl rfl rfl ⟨_, _, _, rfl, hI, hX, ⟨_, rfl, (Int.le_trans (by decide : (0:Int) ≤ 1) (by decide : (1:Int) ≤ (1:Int32).toInt)), (by decide : (1:Int32).toInt ≤ (1:Int)), (show ((0 ≤ ar1.toInt ∧ ar1.toInt ≤ 9999 ∧ 1 ≤ ar2.toInt ∧ ar2.toInt ≤ 20 ∧ ar1.toInt + ar2.toInt ≤ 10000) ∧ gr 0 7 ≠ .null → (1 : Int) = 1) ∧ (¬ ((0 ≤ ar1.toInt ∧ ar1.toInt ≤ 9999 ∧ 1 ≤ ar2.toInt ∧ ar2.toInt ≤ 20 ∧ ar1.toInt + ar2.toInt ≤ 10000) ∧ gr 0 7 ≠ .null) → (1 : Int) = 0) from ⟨fun _ => rfl, fun h => absurd (show _ from ⟨⟨by omega, by omega, by omega, by omega, by omega⟩, (fun hh => (by have h9 := ((hX.1 0 7 rfl).2.2.symm.trans ((hC27.1 0 7 rfl).2.2.trans c23_0)).symm.trans hh; cases h9))⟩) h⟩)⟩⟩
                · have r29 : y23_5.toInt < ar2.toInt := Int32.lt_iff_toInt_lt.mp (t_nle h24)
                  have u30 : y23_5.toInt ≤ 19 := t_ltu (t_nle h24) u16 rfl
                  refine ev_loc f_X11_odds (nx := 30) rfl rfl rfl rfl ?_
                  refine ev_getR f_X11_odds (nx := 33) rfl (hI.wf.s rfl) rfl rfl (hI.wf.r rfl) rfl rfl ?_
                  refine ev_loc f_X11_odds (nx := 34) rfl rfl rfl rfl ?_
                  obtain ⟨a31, e31, p31⟩ := hI.2.2.2.1.1
                  refine ev_getR f_X11_odds (nx := 37) rfl (hI.wf.s rfl) rfl rfl e31 rfl rfl ?_
                  refine ev_loc f_X11_odds (nx := 38) rfl rfl rfl rfl ?_
                  refine ev_getR f_X11_odds (nx := 41) (v := .ref a21) rfl (hI.wf.s rfl) rfl rfl c23_0 rfl rfl ?_
                  refine ev_loc f_X11_odds (nx := 42) rfl rfl rfl rfl ?_
                  refine ev_loc f_X11_odds (nx := 44) rfl rfl rfl rfl ?_
                  refine ev_addR f_X11_odds (nx := 45) (l := 0) (u := 10018) rfl l4 u8 l23_5 u30 rfl rfl (by decide) (by decide) rfl (fun z32 e32 l32 u32 => ?_)
                  refine ev_c0 f_X11_odds (nx := 48) (r := []) rfl rfl rfl rfl rfl rfl rfl (c_spendDay hI (a31) p31 (a21) p21 (z32)) rfl hX rfl (fun gi33 gl33 gr33 hI hX hC33 => ?_)
                  replace p21 := p21.ext hC33.2
                  replace p31 := p31.ext hC33.2
                  refine ev_loc f_X11_odds (nx := 49) rfl rfl rfl rfl ?_
                  refine ev_getR f_X11_odds (nx := 52) rfl (hI.wf.s rfl) rfl rfl (hI.wf.r rfl) rfl rfl ?_
                  refine ev_getI f_X11_odds (nx := 55) rfl (hI.wf.s rfl) rfl rfl rfl ?_
                  refine ev_if f_X11_odds (t1 := 58) (t2 := 71) rfl rfl rfl (fun h34 => ?_) (fun h34 => ?_)
                  · have u35 : (gi33 45 12).toInt ≤ 0 := t_equ h34 (by decide : (0:Int32).toInt ≤ (0:Int))
                    have l36 : 0 ≤ (gi33 45 12).toInt := t_eql h34 (by decide : (0:Int) ≤ (0:Int32).toInt)
                    refine ev_loc f_X11_odds (nx := 59) rfl rfl rfl rfl ?_
                    refine ev_getR f_X11_odds (nx := 62) rfl (hI.wf.s rfl) rfl rfl (hI.wf.r rfl) rfl rfl ?_
                    refine ev_cI f_X11_odds (nx := 65) (r := []) rfl rfl rfl rfl rfl rfl rfl (c_left hI ) rfl hX rfl (fun w37 gi37 gl37 gr37 l37 u37 hI hX hC37 => ?_)
                    replace p21 := p21.ext hC37.2
                    replace p31 := p31.ext hC37.2
                    refine ev_if f_X11_odds (t1 := 68) (t2 := 71) rfl rfl rfl (fun h38 => ?_) (fun h38 => ?_)
                    · have u39 : w37.toInt ≤ 0 := t_equ h38 (by decide : (0:Int32).toInt ≤ (0:Int))
                      have l40 : 0 ≤ w37.toInt := t_eql h38 (by decide : (0:Int) ≤ (0:Int32).toInt)
                      refine ev_incN f_X11_odds (nx := 71) rfl rfl (by decide) rfl (fun z41 => ?_)
                      refine ev_incR f_X11_odds (nx := 74) (c := 1) (l := 1) (u := 20) rfl rfl (by decide) (by decide) l23_5 u30 rfl rfl (by decide) (by decide) rfl (fun z42 e42 l42 u42 => ?_)
                      refine ev_jmp f_X11_odds (nx := 23) rfl rfl rfl ?_
                      refine ev_sub (lo := [(5, .int z42), (4, .int z41), (3, .int 0), (0, .ref 0), (1, .int ar1), (2, .int ar2)]) rfl (t_sc rfl (t_sc rfl (t_sc rfl (t_sc rfl (t_sc rfl (t_sc rfl t_sn)))))) ?_
                      exact ih23 _ (by omega) gi37 gl37 gr37 (z42) (z41) hI hX p21 (Int.le_trans (by decide : (0:Int) ≤ 1) l42) u42 ((hC37.1 0 7 rfl).2.2.trans ((hC33.1 0 7 rfl).2.2.trans c23_0)) rfl
                    · have r43 : w37.toInt ≠ 0 := fun e => h38 (Int32.toInt_inj.mp (e.trans (by decide : (0:Int) = (0 : Int32).toInt)))
                      refine ev_incR f_X11_odds (nx := 74) (c := 1) (l := 1) (u := 20) rfl rfl (by decide) (by decide) l23_5 u30 rfl rfl (by decide) (by decide) rfl (fun z44 e44 l44 u44 => ?_)
                      refine ev_jmp f_X11_odds (nx := 23) rfl rfl rfl ?_
                      refine ev_sub (lo := [(5, .int z44), (4, .int y23_4), (3, .int 0), (0, .ref 0), (1, .int ar1), (2, .int ar2)]) rfl (t_sc rfl (t_sc rfl (t_sc rfl (t_sc rfl (t_sc rfl (t_sc rfl t_sn)))))) ?_
                      exact ih23 _ (by omega) gi37 gl37 gr37 (z44) (y23_4) hI hX p21 (Int.le_trans (by decide : (0:Int) ≤ 1) l44) u44 ((hC37.1 0 7 rfl).2.2.trans ((hC33.1 0 7 rfl).2.2.trans c23_0)) rfl
                  · have r45 : (gi33 45 12).toInt ≠ 0 := fun e => h34 (Int32.toInt_inj.mp (e.trans (by decide : (0:Int) = (0 : Int32).toInt)))
                    refine ev_incR f_X11_odds (nx := 74) (c := 1) (l := 1) (u := 20) rfl rfl (by decide) (by decide) l23_5 u30 rfl rfl (by decide) (by decide) rfl (fun z46 e46 l46 u46 => ?_)
                    refine ev_jmp f_X11_odds (nx := 23) rfl rfl rfl ?_
                    refine ev_sub (lo := [(5, .int z46), (4, .int y23_4), (3, .int 0), (0, .ref 0), (1, .int ar1), (2, .int ar2)]) rfl (t_sc rfl (t_sc rfl (t_sc rfl (t_sc rfl (t_sc rfl (t_sc rfl t_sn)))))) ?_
                    exact ih23 _ (by omega) gi33 gl33 gr33 (z46) (y23_4) hI hX p21 (Int.le_trans (by decide : (0:Int) ≤ 1) l46) u46 ((hC33.1 0 7 rfl).2.2.trans c23_0) rfl
              refine ev_sub (lo := [(5, .int 0), (4, .int 0), (3, .int 0), (0, .ref 0), (1, .int ar1), (2, .int ar2)]) rfl (t_sc rfl (t_sc rfl (t_sc rfl (t_sc rfl (t_sc rfl (t_sc rfl t_sn)))))) ?_
              exact L23 _ gi gl gr (0) (0) hI hX p21 (by decide : (0:Int) ≤ (0:Int32).toInt) (Int.le_trans (by decide : (0:Int32).toInt ≤ (0:Int)) (by decide : (0:Int) ≤ 20)) e21 rfl
          · have l47 : 10000 ≤ z18.toInt := t_ltl (t_nle h19) (by decide : (9999:Int) ≤ (9999:Int32).toInt) rfl
            refine ev_ic f_X11_wrongSeeds (nx := 34) (v := 1) rfl (by decide) rfl ?_
            refine ev_retK1 f_X11_wrongSeeds rfl rfl rfl ?_
            refine ev_loc f_X11_odds (nx := 7) (lo' := [(3, .int 1), (0, .ref 0), (1, .int ar1), (2, .int ar2)]) rfl rfl rfl rfl ?_
            refine ev_loc f_X11_odds (nx := 8) rfl rfl rfl rfl ?_
            refine ev_f f_X11_odds (t1 := 17) (t2 := 11) rfl rfl rfl (by decide) ?_
            refine ev_loc f_X11_odds (nx := 12) rfl rfl rfl rfl ?_
            refine ev_loc f_X11_odds (nx := 13) rfl rfl rfl rfl ?_
            refine ev_inV2 f_X11_odds (nx := 16) (lo2 := [(0, .ref 0), (1, .int 1)]) rfl rfl rfl rfl f_X11_deny (hI.wf.s rfl) rfl rfl rfl rfl rfl ?_
            refine ev_loc f_X11_deny (nx := 1) rfl rfl rfl rfl ?_
            refine ev_loc f_X11_deny (nx := 2) rfl rfl rfl rfl ?_
            refine ev_putIT f_X11_deny (nx := 5) rfl (hI.wf.s rfl) rfl rfl rfl (hI.put0 (hI.wf.s rfl) rfl rfl) (hX.upI rfl) (fun g48 e48 hI hX => ?_)
            refine ev_ic f_X11_deny (nx := 6) (v := 0) rfl (by decide) rfl ?_
            refine ev_retK1 f_X11_deny rfl rfl rfl ?_
            exact ev_ret f_X11_odds rfl rfl rfl ⟨_, _, _, rfl, hI, hX, ⟨_, rfl, (by decide : (0:Int) ≤ (0:Int32).toInt), (Int.le_trans (by decide : (0:Int32).toInt ≤ (0:Int)) (by decide : (0:Int) ≤ 1)), (show ((0 ≤ ar1.toInt ∧ ar1.toInt ≤ 9999 ∧ 1 ≤ ar2.toInt ∧ ar2.toInt ≤ 20 ∧ ar1.toInt + ar2.toInt ≤ 10000) ∧ gr 0 7 ≠ .null → (0 : Int) = 1) ∧ (¬ ((0 ≤ ar1.toInt ∧ ar1.toInt ≤ 9999 ∧ 1 ≤ ar2.toInt ∧ ar2.toInt ≤ 20 ∧ ar1.toInt + ar2.toInt ≤ 10000) ∧ gr 0 7 ≠ .null) → (0 : Int) = 0) from ⟨fun h => absurd h.1 (by omega), fun _ => rfl⟩)⟩⟩
noncomputable def wl_e_odds : List (Nat × Nat) := [(69, 2), (69, 3), (69, 4), (69, 44), (69, 45), (69, 58), (69, 59), (69, 60), (69, 61), (69, 62), (69, 63), (69, 64), (69, 65), (69, 66), (69, 67), (69, 68), (69, 69), (69, 70), (89, 10005), (89, 610011), (90, 9999), (91, 9999), (99, 9999), (100, 9999)]
noncomputable def Q_e_odds (gi : Nat → Nat → Int32) (gl : Nat → Nat → Int64) (gr : Nat → Nat → Value) (ar1 : Int32) (ar2 : Int32) : Int32 → (Nat → Nat → Int32) → (Nat → Nat → Int64) → (Nat → Nat → Value) → Prop := fun (v : Int32) (gi2 : Nat → Nat → Int32) (gl2 : Nat → Nat → Int64) (gr2 : Nat → Nat → Value) => ((0 ≤ ar1.toInt ∧ ar1.toInt ≤ 9999 ∧ 1 ≤ ar2.toInt ∧ ar2.toInt ≤ 20 ∧ ar1.toInt + ar2.toInt ≤ 10000) ∧ (gi 70 8).toInt ≠ 0 → v.toInt = 1) ∧ (¬ ((0 ≤ ar1.toInt ∧ ar1.toInt ≤ 9999 ∧ 1 ≤ ar2.toInt ∧ ar2.toInt ≤ 20 ∧ ar1.toInt + ar2.toInt ≤ 10000) ∧ (gi 70 8).toInt ≠ 0) → v.toInt = 0)
theorem c_e_odds {X : x_Ext} {d : Nat} {sh : List (Nat ⊕ (Nat × Nat))} {gi : Nat → Nat → Int32} {gl : Nat → Nat → Int64} {gr : Nat → Nat → Value} (hI : t_I sh gi gr) (ar1 : Int32) (ar2 : Int32) (e_p0 : t_rpn (gi 70) 0) : x_Me X (d + 7) n_X12_odds [.ref 69, .int ar1, .int ar2] (sh, gi, gl, gr) (t_PI wl_e_odds sh gi gl gr 0 1 (Q_e_odds gi gl gr ar1 ar2)) := by
  have hX : t_X wl_e_odds sh gi gl gr gi gl gr := t_X.rf
  refine me_i f_X12_odds (hI.wf.s rfl) rfl rfl rfl ?_
  obtain ⟨l1, u1⟩ := hI.ab (by decide +kernel : t_abr 70 8 8 0 1 = true) (Nat.le_refl _) (Nat.le_refl _)
  refine ev_loc f_X12_odds (nx := 1) rfl rfl rfl rfl ?_
  refine ev_loc f_X12_odds (nx := 2) rfl rfl rfl rfl ?_
  refine ev_loc f_X12_odds (nx := 3) rfl rfl rfl rfl ?_
  refine ev_inV3 f_X12_odds (nx := 6) (lo2 := [(0, .ref 69), (1, .int ar1), (2, .int ar2)]) rfl rfl rfl rfl f_X12_areSeeds (hI.wf.s rfl) rfl rfl rfl rfl rfl ?_
  refine ev_loc f_X12_areSeeds (nx := 1) rfl rfl rfl rfl ?_
  refine ev_anyLE f_X12_areSeeds (nx := 2) rfl rfl rfl rfl (fun z2 e2 => ?_)
  have i2 : z2.toInt = ar1.toInt := by rw [e2]; exact Int32.toInt_toInt64 _
  refine ev_lc f_X12_areSeeds (nx := 3) (v := 0) rfl (by decide) rfl ?_
  refine ev_ldL f_X12_areSeeds (nx := 6) (v := 9999) rfl (by decide) rfl ?_
  refine ev_inS3 f_X12_areSeeds (nx := 9) (lo2 := [(0, .long z2), (2, .long 0), (4, .long 9999)]) rfl rfl rfl rfl f_X12_isFrom rfl rfl rfl rfl ?_
  refine ev_loc f_X12_isFrom (nx := 1) rfl rfl rfl rfl ?_
  refine ev_loc f_X12_isFrom (nx := 2) rfl rfl rfl rfl ?_
  refine ev_anyIE f_X12_isFrom (nx := 3) rfl rfl rfl rfl (fun z3 e3 => ?_)
  refine ev_if f_X12_isFrom (t1 := 17) (t2 := 6) rfl rfl rfl (fun h4 => ?_) (fun h4 => ?_)
  · have u5 : ar1.toInt ≤ ((-1):Int) := Int.le_sub_one_of_lt ((lgc_lt (by decide : (0 : Int64).toInt = 0)).mp (by have hh := h4; rw [e3, e2] at hh; exact hh))
    have u6 : z3.toInt ≤ (-1) := t_ltu h4 (by decide : (0:Int32).toInt ≤ (0:Int)) rfl
    refine ev_ic f_X12_isFrom (nx := 18) (v := 0) rfl (by decide) rfl ?_
    refine ev_retK1 f_X12_isFrom rfl rfl rfl ?_
    refine ev_t f_X12_areSeeds (t1 := 39) (t2 := 12) rfl rfl rfl (by decide) ?_
    refine ev_ic f_X12_areSeeds (nx := 40) (v := 0) rfl (by decide) rfl ?_
    refine ev_retK1 f_X12_areSeeds rfl rfl rfl ?_
    refine ev_t f_X12_odds (t1 := 9) (t2 := 15) rfl rfl rfl (by decide) ?_
    refine ev_loc f_X12_odds (nx := 10) rfl rfl rfl rfl ?_
    refine ev_ic f_X12_odds (nx := 11) (v := 1) rfl (by decide) rfl ?_
    refine ev_inV2 f_X12_odds (nx := 14) (lo2 := [(0, .ref 69), (1, .int 1)]) rfl rfl rfl rfl f_X12_is (hI.wf.s rfl) rfl rfl rfl rfl rfl ?_
    refine ev_loc f_X12_is (nx := 1) rfl rfl rfl rfl ?_
    refine ev_loc f_X12_is (nx := 2) rfl rfl rfl rfl ?_
    refine ev_putIT f_X12_is (nx := 5) rfl (hI.wf.s rfl) rfl rfl rfl (hI.put0 (hI.wf.s rfl) rfl rfl) (hX.upI rfl) (fun g7 e7 hI hX => ?_)
    refine ev_loc f_X12_is (nx := 6) rfl rfl rfl rfl ?_
    refine ev_f f_X12_is (t1 := 9) (t2 := 13) rfl rfl rfl (by decide) ?_
    refine ev_ic f_X12_is (nx := 14) (v := 0) rfl (by decide) rfl ?_
    refine ev_retK1 f_X12_is rfl rfl rfl ?_
    exact ev_ret f_X12_odds rfl rfl rfl ⟨_, _, _, rfl, hI, hX, ⟨_, rfl, (by decide : (0:Int) ≤ (0:Int32).toInt), (Int.le_trans (by decide : (0:Int32).toInt ≤ (0:Int)) (by decide : (0:Int) ≤ 1)), (show ((0 ≤ ar1.toInt ∧ ar1.toInt ≤ 9999 ∧ 1 ≤ ar2.toInt ∧ ar2.toInt ≤ 20 ∧ ar1.toInt + ar2.toInt ≤ 10000) ∧ (gi 70 8).toInt ≠ 0 → (0 : Int) = 1) ∧ (¬ ((0 ≤ ar1.toInt ∧ ar1.toInt ≤ 9999 ∧ 1 ≤ ar2.toInt ∧ ar2.toInt ≤ 20 ∧ ar1.toInt + ar2.toInt ≤ 10000) ∧ (gi 70 8).toInt ≠ 0) → (0 : Int) = 0) from ⟨fun _ => (by omega), fun _ => (by omega)⟩)⟩⟩
  · have l8 : (0:Int) ≤ ar1.toInt := (lgc_ge (by decide : (0 : Int64).toInt = 0)).mp (by have hh := (t_nlt h4); rw [e3, e2] at hh; exact hh)
    have l9 : 0 ≤ z3.toInt := t_lel (t_nlt h4) (by decide : (0:Int) ≤ (0:Int32).toInt)
    refine ev_loc f_X12_isFrom (nx := 7) rfl rfl rfl rfl ?_
    refine ev_loc f_X12_isFrom (nx := 9) rfl rfl rfl rfl ?_
    refine ev_anyIE f_X12_isFrom (nx := 10) rfl rfl rfl rfl (fun z10 e10 => ?_)
    refine ev_if f_X12_isFrom (t1 := 17) (t2 := 13) rfl rfl rfl (fun h11 => ?_) (fun h11 => ?_)
    · have l12 : (10000:Int) ≤ ar1.toInt := Int.add_one_le_of_lt ((lgc_gt (by decide : (9999 : Int64).toInt = 9999)).mp (by have hh := h11; rw [e10, e2] at hh; exact hh))
      have l13 : 1 ≤ z10.toInt := t_ltl h11 (by decide : (0:Int) ≤ (0:Int32).toInt) rfl
      refine ev_ic f_X12_isFrom (nx := 18) (v := 0) rfl (by decide) rfl ?_
      refine ev_retK1 f_X12_isFrom rfl rfl rfl ?_
      refine ev_t f_X12_areSeeds (t1 := 39) (t2 := 12) rfl rfl rfl (by decide) ?_
      refine ev_ic f_X12_areSeeds (nx := 40) (v := 0) rfl (by decide) rfl ?_
      refine ev_retK1 f_X12_areSeeds rfl rfl rfl ?_
      refine ev_t f_X12_odds (t1 := 9) (t2 := 15) rfl rfl rfl (by decide) ?_
      refine ev_loc f_X12_odds (nx := 10) rfl rfl rfl rfl ?_
      refine ev_ic f_X12_odds (nx := 11) (v := 1) rfl (by decide) rfl ?_
      refine ev_inV2 f_X12_odds (nx := 14) (lo2 := [(0, .ref 69), (1, .int 1)]) rfl rfl rfl rfl f_X12_is (hI.wf.s rfl) rfl rfl rfl rfl rfl ?_
      refine ev_loc f_X12_is (nx := 1) rfl rfl rfl rfl ?_
      refine ev_loc f_X12_is (nx := 2) rfl rfl rfl rfl ?_
      refine ev_putIT f_X12_is (nx := 5) rfl (hI.wf.s rfl) rfl rfl rfl (hI.put0 (hI.wf.s rfl) rfl rfl) (hX.upI rfl) (fun g14 e14 hI hX => ?_)
      refine ev_loc f_X12_is (nx := 6) rfl rfl rfl rfl ?_
      refine ev_f f_X12_is (t1 := 9) (t2 := 13) rfl rfl rfl (by decide) ?_
      refine ev_ic f_X12_is (nx := 14) (v := 0) rfl (by decide) rfl ?_
      refine ev_retK1 f_X12_is rfl rfl rfl ?_
      exact ev_ret f_X12_odds rfl rfl rfl ⟨_, _, _, rfl, hI, hX, ⟨_, rfl, (by decide : (0:Int) ≤ (0:Int32).toInt), (Int.le_trans (by decide : (0:Int32).toInt ≤ (0:Int)) (by decide : (0:Int) ≤ 1)), (show ((0 ≤ ar1.toInt ∧ ar1.toInt ≤ 9999 ∧ 1 ≤ ar2.toInt ∧ ar2.toInt ≤ 20 ∧ ar1.toInt + ar2.toInt ≤ 10000) ∧ (gi 70 8).toInt ≠ 0 → (0 : Int) = 1) ∧ (¬ ((0 ≤ ar1.toInt ∧ ar1.toInt ≤ 9999 ∧ 1 ≤ ar2.toInt ∧ ar2.toInt ≤ 20 ∧ ar1.toInt + ar2.toInt ≤ 10000) ∧ (gi 70 8).toInt ≠ 0) → (0 : Int) = 0) from ⟨fun _ => (by omega), fun _ => (by omega)⟩)⟩⟩
    · have u15 : ar1.toInt ≤ (9999:Int) := (lgc_le (by decide : (9999 : Int64).toInt = 9999)).mp (by have hh := (t_nlt h11); rw [e10, e2] at hh; exact hh)
      have u16 : z10.toInt ≤ 0 := t_leu (t_nlt h11) (by decide : (0:Int32).toInt ≤ (0:Int))
      refine ev_ic f_X12_isFrom (nx := 14) (v := 1) rfl (by decide) rfl ?_
      refine ev_jmp f_X12_isFrom (nx := 18) rfl rfl rfl ?_
      refine ev_retK1 f_X12_isFrom rfl rfl rfl ?_
      refine ev_f f_X12_areSeeds (t1 := 39) (t2 := 12) rfl rfl rfl (by decide) ?_
      refine ev_loc f_X12_areSeeds (nx := 13) rfl rfl rfl rfl ?_
      refine ev_anyLE f_X12_areSeeds (nx := 14) rfl rfl rfl rfl (fun z17 e17 => ?_)
      have i17 : z17.toInt = ar2.toInt := by rw [e17]; exact Int32.toInt_toInt64 _
      refine ev_lc f_X12_areSeeds (nx := 15) (v := 1) rfl (by decide) rfl ?_
      refine ev_ldL f_X12_areSeeds (nx := 18) (v := 20) rfl (by decide) rfl ?_
      refine ev_inS3 f_X12_areSeeds (nx := 21) (lo2 := [(0, .long z17), (2, .long 1), (4, .long 20)]) rfl rfl rfl rfl f_X12_isFrom rfl rfl rfl rfl ?_
      refine ev_loc f_X12_isFrom (nx := 1) rfl rfl rfl rfl ?_
      refine ev_loc f_X12_isFrom (nx := 2) rfl rfl rfl rfl ?_
      refine ev_anyIE f_X12_isFrom (nx := 3) rfl rfl rfl rfl (fun z18 e18 => ?_)
      refine ev_if f_X12_isFrom (t1 := 17) (t2 := 6) rfl rfl rfl (fun h19 => ?_) (fun h19 => ?_)
      · have u20 : ar2.toInt ≤ (0:Int) := Int.le_sub_one_of_lt ((lgc_lt (by decide : (1 : Int64).toInt = 1)).mp (by have hh := h19; rw [e18, e17] at hh; exact hh))
        have u21 : z18.toInt ≤ (-1) := t_ltu h19 (by decide : (0:Int32).toInt ≤ (0:Int)) rfl
        refine ev_ic f_X12_isFrom (nx := 18) (v := 0) rfl (by decide) rfl ?_
        refine ev_retK1 f_X12_isFrom rfl rfl rfl ?_
        refine ev_t f_X12_areSeeds (t1 := 39) (t2 := 24) rfl rfl rfl (by decide) ?_
        refine ev_ic f_X12_areSeeds (nx := 40) (v := 0) rfl (by decide) rfl ?_
        refine ev_retK1 f_X12_areSeeds rfl rfl rfl ?_
        refine ev_t f_X12_odds (t1 := 9) (t2 := 15) rfl rfl rfl (by decide) ?_
        refine ev_loc f_X12_odds (nx := 10) rfl rfl rfl rfl ?_
        refine ev_ic f_X12_odds (nx := 11) (v := 1) rfl (by decide) rfl ?_
        refine ev_inV2 f_X12_odds (nx := 14) (lo2 := [(0, .ref 69), (1, .int 1)]) rfl rfl rfl rfl f_X12_is (hI.wf.s rfl) rfl rfl rfl rfl rfl ?_
        refine ev_loc f_X12_is (nx := 1) rfl rfl rfl rfl ?_
        refine ev_loc f_X12_is (nx := 2) rfl rfl rfl rfl ?_
        refine ev_putIT f_X12_is (nx := 5) rfl (hI.wf.s rfl) rfl rfl rfl (hI.put0 (hI.wf.s rfl) rfl rfl) (hX.upI rfl) (fun g22 e22 hI hX => ?_)
        refine ev_loc f_X12_is (nx := 6) rfl rfl rfl rfl ?_
        refine ev_f f_X12_is (t1 := 9) (t2 := 13) rfl rfl rfl (by decide) ?_
        refine ev_ic f_X12_is (nx := 14) (v := 0) rfl (by decide) rfl ?_
        refine ev_retK1 f_X12_is rfl rfl rfl ?_
        exact ev_ret f_X12_odds rfl rfl rfl ⟨_, _, _, rfl, hI, hX, ⟨_, rfl, (by decide : (0:Int) ≤ (0:Int32).toInt), (Int.le_trans (by decide : (0:Int32).toInt ≤ (0:Int)) (by decide : (0:Int) ≤ 1)), (show ((0 ≤ ar1.toInt ∧ ar1.toInt ≤ 9999 ∧ 1 ≤ ar2.toInt ∧ ar2.toInt ≤ 20 ∧ ar1.toInt + ar2.toInt ≤ 10000) ∧ (gi 70 8).toInt ≠ 0 → (0 : Int) = 1) ∧ (¬ ((0 ≤ ar1.toInt ∧ ar1.toInt ≤ 9999 ∧ 1 ≤ ar2.toInt ∧ ar2.toInt ≤ 20 ∧ ar1.toInt + ar2.toInt ≤ 10000) ∧ (gi 70 8).toInt ≠ 0) → (0 : Int) = 0) from ⟨fun _ => (by omega), fun _ => (by omega)⟩)⟩⟩
      · have l23 : (1:Int) ≤ ar2.toInt := (lgc_ge (by decide : (1 : Int64).toInt = 1)).mp (by have hh := (t_nlt h19); rw [e18, e17] at hh; exact hh)
        have l24 : 0 ≤ z18.toInt := t_lel (t_nlt h19) (by decide : (0:Int) ≤ (0:Int32).toInt)
        refine ev_loc f_X12_isFrom (nx := 7) rfl rfl rfl rfl ?_
        refine ev_loc f_X12_isFrom (nx := 9) rfl rfl rfl rfl ?_
        refine ev_anyIE f_X12_isFrom (nx := 10) rfl rfl rfl rfl (fun z25 e25 => ?_)
        refine ev_if f_X12_isFrom (t1 := 17) (t2 := 13) rfl rfl rfl (fun h26 => ?_) (fun h26 => ?_)
        · have l27 : (21:Int) ≤ ar2.toInt := Int.add_one_le_of_lt ((lgc_gt (by decide : (20 : Int64).toInt = 20)).mp (by have hh := h26; rw [e25, e17] at hh; exact hh))
          have l28 : 1 ≤ z25.toInt := t_ltl h26 (by decide : (0:Int) ≤ (0:Int32).toInt) rfl
          refine ev_ic f_X12_isFrom (nx := 18) (v := 0) rfl (by decide) rfl ?_
          refine ev_retK1 f_X12_isFrom rfl rfl rfl ?_
          refine ev_t f_X12_areSeeds (t1 := 39) (t2 := 24) rfl rfl rfl (by decide) ?_
          refine ev_ic f_X12_areSeeds (nx := 40) (v := 0) rfl (by decide) rfl ?_
          refine ev_retK1 f_X12_areSeeds rfl rfl rfl ?_
          refine ev_t f_X12_odds (t1 := 9) (t2 := 15) rfl rfl rfl (by decide) ?_
          refine ev_loc f_X12_odds (nx := 10) rfl rfl rfl rfl ?_
          refine ev_ic f_X12_odds (nx := 11) (v := 1) rfl (by decide) rfl ?_
          refine ev_inV2 f_X12_odds (nx := 14) (lo2 := [(0, .ref 69), (1, .int 1)]) rfl rfl rfl rfl f_X12_is (hI.wf.s rfl) rfl rfl rfl rfl rfl ?_
          refine ev_loc f_X12_is (nx := 1) rfl rfl rfl rfl ?_
          refine ev_loc f_X12_is (nx := 2) rfl rfl rfl rfl ?_
          refine ev_putIT f_X12_is (nx := 5) rfl (hI.wf.s rfl) rfl rfl rfl (hI.put0 (hI.wf.s rfl) rfl rfl) (hX.upI rfl) (fun g29 e29 hI hX => ?_)
          refine ev_loc f_X12_is (nx := 6) rfl rfl rfl rfl ?_
          refine ev_f f_X12_is (t1 := 9) (t2 := 13) rfl rfl rfl (by decide) ?_
          refine ev_ic f_X12_is (nx := 14) (v := 0) rfl (by decide) rfl ?_
          refine ev_retK1 f_X12_is rfl rfl rfl ?_
          exact ev_ret f_X12_odds rfl rfl rfl ⟨_, _, _, rfl, hI, hX, ⟨_, rfl, (by decide : (0:Int) ≤ (0:Int32).toInt), (Int.le_trans (by decide : (0:Int32).toInt ≤ (0:Int)) (by decide : (0:Int) ≤ 1)), (show ((0 ≤ ar1.toInt ∧ ar1.toInt ≤ 9999 ∧ 1 ≤ ar2.toInt ∧ ar2.toInt ≤ 20 ∧ ar1.toInt + ar2.toInt ≤ 10000) ∧ (gi 70 8).toInt ≠ 0 → (0 : Int) = 1) ∧ (¬ ((0 ≤ ar1.toInt ∧ ar1.toInt ≤ 9999 ∧ 1 ≤ ar2.toInt ∧ ar2.toInt ≤ 20 ∧ ar1.toInt + ar2.toInt ≤ 10000) ∧ (gi 70 8).toInt ≠ 0) → (0 : Int) = 0) from ⟨fun _ => (by omega), fun _ => (by omega)⟩)⟩⟩
        · have u30 : ar2.toInt ≤ (20:Int) := (lgc_le (by decide : (20 : Int64).toInt = 20)).mp (by have hh := (t_nlt h26); rw [e25, e17] at hh; exact hh)
          have u31 : z25.toInt ≤ 0 := t_leu (t_nlt h26) (by decide : (0:Int32).toInt ≤ (0:Int))
          refine ev_ic f_X12_isFrom (nx := 14) (v := 1) rfl (by decide) rfl ?_
          refine ev_jmp f_X12_isFrom (nx := 18) rfl rfl rfl ?_
          refine ev_retK1 f_X12_isFrom rfl rfl rfl ?_
          refine ev_f f_X12_areSeeds (t1 := 39) (t2 := 24) rfl rfl rfl (by decide) ?_
          refine ev_loc f_X12_areSeeds (nx := 25) rfl rfl rfl rfl ?_
          refine ev_loc f_X12_areSeeds (nx := 26) rfl rfl rfl rfl ?_
          refine ev_addR f_X12_areSeeds (nx := 27) (l := 1) (u := 10019) rfl l8 u15 l23 u30 rfl rfl (by decide) (by decide) rfl (fun z32 e32 l32 u32 => ?_)
          refine ev_ic f_X12_areSeeds (nx := 28) (v := 1) rfl (by decide) rfl ?_
          refine ev_subC f_X12_areSeeds (nx := 29) (c := 1) (l := 0) (u := 10018) rfl (by decide) l32 u32 rfl rfl (by decide) (by decide) rfl (fun z33 e33 l33 u33 => ?_)
          refine ev_sp f_X12_areSeeds (nx := 32) (v := 9999) rfl (by decide) rfl ?_
          refine ev_if f_X12_areSeeds (t1 := 39) (t2 := 35) rfl rfl rfl (fun h34 => ?_) (fun h34 => ?_)
          · have l35 : 10000 ≤ z33.toInt := t_ltl h34 (by decide : (9999:Int) ≤ (9999:Int32).toInt) rfl
            refine ev_ic f_X12_areSeeds (nx := 40) (v := 0) rfl (by decide) rfl ?_
            refine ev_retK1 f_X12_areSeeds rfl rfl rfl ?_
            refine ev_t f_X12_odds (t1 := 9) (t2 := 15) rfl rfl rfl (by decide) ?_
            refine ev_loc f_X12_odds (nx := 10) rfl rfl rfl rfl ?_
            refine ev_ic f_X12_odds (nx := 11) (v := 1) rfl (by decide) rfl ?_
            refine ev_inV2 f_X12_odds (nx := 14) (lo2 := [(0, .ref 69), (1, .int 1)]) rfl rfl rfl rfl f_X12_is (hI.wf.s rfl) rfl rfl rfl rfl rfl ?_
            refine ev_loc f_X12_is (nx := 1) rfl rfl rfl rfl ?_
            refine ev_loc f_X12_is (nx := 2) rfl rfl rfl rfl ?_
            refine ev_putIT f_X12_is (nx := 5) rfl (hI.wf.s rfl) rfl rfl rfl (hI.put0 (hI.wf.s rfl) rfl rfl) (hX.upI rfl) (fun g36 e36 hI hX => ?_)
            refine ev_loc f_X12_is (nx := 6) rfl rfl rfl rfl ?_
            refine ev_f f_X12_is (t1 := 9) (t2 := 13) rfl rfl rfl (by decide) ?_
            refine ev_ic f_X12_is (nx := 14) (v := 0) rfl (by decide) rfl ?_
            refine ev_retK1 f_X12_is rfl rfl rfl ?_
            exact ev_ret f_X12_odds rfl rfl rfl ⟨_, _, _, rfl, hI, hX, ⟨_, rfl, (by decide : (0:Int) ≤ (0:Int32).toInt), (Int.le_trans (by decide : (0:Int32).toInt ≤ (0:Int)) (by decide : (0:Int) ≤ 1)), (show ((0 ≤ ar1.toInt ∧ ar1.toInt ≤ 9999 ∧ 1 ≤ ar2.toInt ∧ ar2.toInt ≤ 20 ∧ ar1.toInt + ar2.toInt ≤ 10000) ∧ (gi 70 8).toInt ≠ 0 → (0 : Int) = 1) ∧ (¬ ((0 ≤ ar1.toInt ∧ ar1.toInt ≤ 9999 ∧ 1 ≤ ar2.toInt ∧ ar2.toInt ≤ 20 ∧ ar1.toInt + ar2.toInt ≤ 10000) ∧ (gi 70 8).toInt ≠ 0) → (0 : Int) = 0) from ⟨fun _ => (by omega), fun _ => (by omega)⟩)⟩⟩
          · have u37 : z33.toInt ≤ 9999 := t_leu (t_nlt h34) (by decide : (9999:Int32).toInt ≤ (9999:Int))
            refine ev_ic f_X12_areSeeds (nx := 36) (v := 1) rfl (by decide) rfl ?_
            refine ev_jmp f_X12_areSeeds (nx := 40) rfl rfl rfl ?_
            refine ev_retK1 f_X12_areSeeds rfl rfl rfl ?_
            refine ev_f f_X12_odds (t1 := 9) (t2 := 15) rfl rfl rfl (by decide) ?_
            refine ev_loc f_X12_odds (nx := 16) rfl rfl rfl rfl ?_
            refine ev_getR f_X12_odds (nx := 19) rfl (hI.wf.s rfl) rfl rfl (hI.wf.r rfl) rfl rfl ?_
            refine ev_bp f_X12_odds (nx := 21) (v := 8) rfl (by decide) rfl ?_
            refine ev_ialdv f_X12_odds (nx := 22) (w := (gi 70 8)) rfl (hI.wf.s rfl) (by decide) (rfl : (8 : Int32).toNatClampNeg = 8) (by decide) rfl rfl ?_
            refine ev_if f_X12_odds (t1 := 25) (t2 := 32) rfl rfl rfl (fun h39 => ?_) (fun h39 => ?_)
            · have u40 : (gi 70 8).toInt ≤ 0 := t_equ h39 (by decide : (0:Int32).toInt ≤ (0:Int))
              refine ev_loc f_X12_odds (nx := 26) rfl rfl rfl rfl ?_
              refine ev_bp f_X12_odds (nx := 28) (v := 6) rfl (by decide) rfl ?_
              refine ev_inV2 f_X12_odds (nx := 31) (lo2 := [(0, .ref 69), (1, .int 6)]) rfl rfl rfl rfl f_X12_is (hI.wf.s rfl) rfl rfl rfl rfl rfl ?_
              refine ev_loc f_X12_is (nx := 1) rfl rfl rfl rfl ?_
              refine ev_loc f_X12_is (nx := 2) rfl rfl rfl rfl ?_
              refine ev_putIT f_X12_is (nx := 5) rfl (hI.wf.s rfl) rfl rfl rfl (hI.put0 (hI.wf.s rfl) rfl rfl) (hX.upI rfl) (fun g41 e41 hI hX => ?_)
              refine ev_loc f_X12_is (nx := 6) rfl rfl rfl rfl ?_
              refine ev_f f_X12_is (t1 := 9) (t2 := 13) rfl rfl rfl (by decide) ?_
              refine ev_ic f_X12_is (nx := 14) (v := 0) rfl (by decide) rfl ?_
              refine ev_retK1 f_X12_is rfl rfl rfl ?_
              exact ev_ret f_X12_odds rfl rfl rfl ⟨_, _, _, rfl, hI, hX, ⟨_, rfl, (by decide : (0:Int) ≤ (0:Int32).toInt), (Int.le_trans (by decide : (0:Int32).toInt ≤ (0:Int)) (by decide : (0:Int) ≤ 1)), (show ((0 ≤ ar1.toInt ∧ ar1.toInt ≤ 9999 ∧ 1 ≤ ar2.toInt ∧ ar2.toInt ≤ 20 ∧ ar1.toInt + ar2.toInt ≤ 10000) ∧ (gi 70 8).toInt ≠ 0 → (0 : Int) = 1) ∧ (¬ ((0 ≤ ar1.toInt ∧ ar1.toInt ≤ 9999 ∧ 1 ≤ ar2.toInt ∧ ar2.toInt ≤ 20 ∧ ar1.toInt + ar2.toInt ≤ 10000) ∧ (gi 70 8).toInt ≠ 0) → (0 : Int) = 0) from ⟨fun _ => (by omega), fun _ => (by omega)⟩)⟩⟩
            · have r42 : (gi 70 8).toInt ≠ 0 := fun e => h39 (Int32.toInt_inj.mp (e.trans (by decide : (0:Int) = (0 : Int32).toInt)))
              have l43 : 1 ≤ (gi 70 8).toInt := t_nel h39 l1 rfl rfl
              refine ev_ic f_X12_odds (nx := 33) (v := 0) rfl (by decide) rfl ?_
              refine ev_loc f_X12_odds (nx := 34) (lo' := [(3, .int 0), (0, .ref 69), (1, .int ar1), (2, .int ar2)]) rfl rfl rfl rfl ?_
              refine ev_ic f_X12_odds (nx := 35) (v := 0) rfl (by decide) rfl ?_
              refine ev_loc f_X12_odds (nx := 37) (lo' := [(4, .int 0), (3, .int 0), (0, .ref 69), (1, .int ar1), (2, .int ar2)]) rfl rfl rfl rfl ?_
              have L44 : ∀ (m44 : Nat) (gi44 : Nat → Nat → Int32) (gl44 : Nat → Nat → Int64) (gr44 : Nat → Nat → Value) (y44_4 : Int32) (y44_3 : Int32), t_I sh gi44 gr44 → t_X wl_e_odds sh gi gl gr gi44 gl44 gr44 → 0 ≤ y44_4.toInt → y44_4.toInt ≤ 20 → 0 ≤ y44_3.toInt → y44_3.toInt ≤ 20 → gi44 70 8 = (gi 70 8) → t_rpn (gi44 70) 0 → 0 ≤ y44_3.toInt → y44_3.toInt ≤ y44_4.toInt → (20 - y44_4.toInt).toNat = m44 → x_Ev X (d + 7) n_X12_odds 37 [(4, .int y44_4), (3, .int y44_3), (0, .ref 69), (1, .int ar1), (2, .int ar2)] [] (sh, gi44, gl44, gr44) (t_PI wl_e_odds sh gi gl gr 0 1 (Q_e_odds gi gl gr ar1 ar2)) := by
                intro m44
                induction m44 using Nat.strongRecOn with
                | _ m44 ih44 =>
                intro gi44 gl44 gr44 y44_4 y44_3 hI hX l44_4 u44_4 l44_3 u44_3 c44_0 j44_0 j44_1 j44_2 hm44
                refine ev_loc f_X12_odds (nx := 39) rfl rfl rfl rfl ?_
                refine ev_loc f_X12_odds (nx := 40) rfl rfl rfl rfl ?_
                refine ev_if f_X12_odds (t1 := 79) (t2 := 43) rfl rfl rfl (fun h45 => ?_) (fun h45 => ?_)
                · have r46 : ar2.toInt ≤ y44_4.toInt := Int32.le_iff_toInt_le.mp h45
                  have l47 : 1 ≤ y44_4.toInt := t_lel h45 l23
                  refine ev_loc f_X12_odds (nx := 80) rfl rfl rfl rfl ?_
                  refine ev_loc f_X12_odds (nx := 81) rfl rfl rfl rfl ?_
                  refine ev_anyLE f_X12_odds (nx := 82) rfl rfl rfl rfl (fun z48 e48 => ?_)
                  have i48 : z48.toInt = y44_3.toInt := by rw [e48]; exact Int32.toInt_toInt64 _
                  refine ev_loc f_X12_odds (nx := 83) rfl rfl rfl rfl ?_
                  refine ev_anyLE f_X12_odds (nx := 84) rfl rfl rfl rfl (fun z49 e49 => ?_)
                  have i49 : z49.toInt = ar2.toInt := by rw [e49]; exact Int32.toInt_toInt64 _
                  refine ev_cI f_X12_odds (nx := 87) (r := []) rfl rfl rfl rfl rfl rfl rfl (c_m_tellsBy hI (z48) (z49) (by omega) (by omega)) rfl hX rfl (fun w50 gi50 gl50 gr50 l50 u50 hI hX hC50 => ?_)
                  exact ev_retZ f_X12_odds rfl (Int.le_trans (by decide : (0:Int) ≤ 1) l50) u50 ⟨_, _, _, rfl, hI, hX, ⟨_, rfl, (Int.le_trans (by decide : (0:Int) ≤ 1) l50), u50, (show ((0 ≤ ar1.toInt ∧ ar1.toInt ≤ 9999 ∧ 1 ≤ ar2.toInt ∧ ar2.toInt ≤ 20 ∧ ar1.toInt + ar2.toInt ≤ 10000) ∧ (gi 70 8).toInt ≠ 0 → w50.toInt = 1) ∧ (¬ ((0 ≤ ar1.toInt ∧ ar1.toInt ≤ 9999 ∧ 1 ≤ ar2.toInt ∧ ar2.toInt ≤ 20 ∧ ar1.toInt + ar2.toInt ≤ 10000) ∧ (gi 70 8).toInt ≠ 0) → w50.toInt = 0) from ⟨fun _ => (by omega), fun _ => (by omega)⟩)⟩⟩
                · have r51 : y44_4.toInt < ar2.toInt := Int32.lt_iff_toInt_lt.mp (t_nle h45)
                  have u52 : y44_4.toInt ≤ 19 := t_ltu (t_nle h45) u30 rfl
                  refine ev_loc f_X12_odds (nx := 44) rfl rfl rfl rfl ?_
                  refine ev_loc f_X12_odds (nx := 45) rfl rfl rfl rfl ?_
                  refine ev_loc f_X12_odds (nx := 47) rfl rfl rfl rfl ?_
                  refine ev_addR f_X12_odds (nx := 48) (l := 0) (u := 10018) rfl l8 u15 l44_4 u52 rfl rfl (by decide) (by decide) rfl (fun z53 e53 l53 u53 => ?_)
                  refine ev_c0 f_X12_odds (nx := 51) (r := []) rfl rfl rfl rfl rfl rfl rfl (c_m_keeps hI (z53) j44_0) rfl hX rfl (fun gi54 gl54 gr54 hI hX hC54 => ?_)
                  refine ev_loc f_X12_odds (nx := 52) rfl rfl rfl rfl ?_
                  refine ev_loc f_X12_odds (nx := 53) rfl rfl rfl rfl ?_
                  refine ev_getI f_X12_odds (nx := 56) rfl (hI.wf.s rfl) rfl rfl rfl ?_
                  refine ev_if f_X12_odds (t1 := 59) (t2 := 70) rfl rfl rfl (fun h55 => ?_) (fun h55 => ?_)
                  · have u56 : (gi54 69 67).toInt ≤ 0 := t_equ h55 (by decide : (0:Int32).toInt ≤ (0:Int))
                    have l57 : 0 ≤ (gi54 69 67).toInt := t_eql h55 (by decide : (0:Int) ≤ (0:Int32).toInt)
                    refine ev_loc f_X12_odds (nx := 60) rfl rfl rfl rfl ?_
                    refine ev_cI f_X12_odds (nx := 63) (r := [.int y44_3]) rfl rfl rfl rfl rfl rfl rfl (c_m_leftOver hI ) rfl hX rfl (fun w58 gi58 gl58 gr58 l58 u58 hI hX hC58 => ?_)
                    refine ev_if f_X12_odds (t1 := 66) (t2 := 70) rfl rfl rfl (fun h59 => ?_) (fun h59 => ?_)
                    · have u60 : w58.toInt ≤ 0 := t_equ h59 (by decide : (0:Int32).toInt ≤ (0:Int))
                      have l61 : 0 ≤ w58.toInt := t_eql h59 (by decide : (0:Int) ≤ (0:Int32).toInt)
                      refine ev_ic f_X12_odds (nx := 67) (v := 1) rfl (by decide) rfl ?_
                      refine ev_jmp f_X12_odds (nx := 71) rfl rfl rfl ?_
                      refine ev_addC f_X12_odds (nx := 72) (c := 1) (l := 1) (u := 21) rfl (by decide) l44_3 u44_3 rfl rfl (by decide) (by decide) rfl (fun z62 e62 l62 u62 => ?_)
                      refine ev_loc f_X12_odds (nx := 73) (lo' := [(3, .int z62), (4, .int y44_4), (0, .ref 69), (1, .int ar1), (2, .int ar2)]) rfl rfl rfl rfl ?_
                      refine ev_incR f_X12_odds (nx := 76) (c := 1) (l := 1) (u := 20) rfl rfl (by decide) (by decide) l44_4 u52 rfl rfl (by decide) (by decide) rfl (fun z63 e63 l63 u63 => ?_)
                      refine ev_jmp f_X12_odds (nx := 37) rfl rfl rfl ?_
                      refine ev_sub (lo := [(4, .int z63), (3, .int z62), (0, .ref 69), (1, .int ar1), (2, .int ar2)]) rfl (t_sc rfl (t_sc rfl (t_sc rfl (t_sc rfl (t_sc rfl t_sn))))) ?_
                      exact ih44 _ (by omega) gi58 gl58 gr58 (z63) (z62) hI hX  (Int.le_trans (by decide : (0:Int) ≤ 1) l63) u63 (Int.le_trans (by decide : (0:Int) ≤ 1) l62) (by omega : z62.toInt ≤ (20:Int)) ((hC58.1 70 8 rfl).1.trans ((hC54.1 70 8 rfl).1.trans c44_0)) (by have hq := ((funext (fun j => (hC58.1 70 j rfl).1) : gi58 70 = gi54 70).trans ((funext (fun j => (hC54.1 70 j rfl).1) : gi54 70 = gi44 70))); rw [hq]; exact j44_0) (by omega) (by omega) rfl
                    · have r64 : w58.toInt ≠ 0 := fun e => h59 (Int32.toInt_inj.mp (e.trans (by decide : (0:Int) = (0 : Int32).toInt)))
                      refine ev_ic f_X12_odds (nx := 71) (v := 0) rfl (by decide) rfl ?_
                      refine ev_addC f_X12_odds (nx := 72) (c := 0) (l := 0) (u := 20) rfl (by decide) l44_3 u44_3 rfl rfl (by decide) (by decide) rfl (fun z65 e65 l65 u65 => ?_)
                      refine ev_loc f_X12_odds (nx := 73) (lo' := [(3, .int z65), (4, .int y44_4), (0, .ref 69), (1, .int ar1), (2, .int ar2)]) rfl rfl rfl rfl ?_
                      refine ev_incR f_X12_odds (nx := 76) (c := 1) (l := 1) (u := 20) rfl rfl (by decide) (by decide) l44_4 u52 rfl rfl (by decide) (by decide) rfl (fun z66 e66 l66 u66 => ?_)
                      refine ev_jmp f_X12_odds (nx := 37) rfl rfl rfl ?_
                      refine ev_sub (lo := [(4, .int z66), (3, .int z65), (0, .ref 69), (1, .int ar1), (2, .int ar2)]) rfl (t_sc rfl (t_sc rfl (t_sc rfl (t_sc rfl (t_sc rfl t_sn))))) ?_
                      exact ih44 _ (by omega) gi58 gl58 gr58 (z66) (z65) hI hX  (Int.le_trans (by decide : (0:Int) ≤ 1) l66) u66 l65 u65 ((hC58.1 70 8 rfl).1.trans ((hC54.1 70 8 rfl).1.trans c44_0)) (by have hq := ((funext (fun j => (hC58.1 70 j rfl).1) : gi58 70 = gi54 70).trans ((funext (fun j => (hC54.1 70 j rfl).1) : gi54 70 = gi44 70))); rw [hq]; exact j44_0) (by omega) (by omega) rfl
                  · have r67 : (gi54 69 67).toInt ≠ 0 := fun e => h55 (Int32.toInt_inj.mp (e.trans (by decide : (0:Int) = (0 : Int32).toInt)))
                    refine ev_ic f_X12_odds (nx := 71) (v := 0) rfl (by decide) rfl ?_
                    refine ev_addC f_X12_odds (nx := 72) (c := 0) (l := 0) (u := 20) rfl (by decide) l44_3 u44_3 rfl rfl (by decide) (by decide) rfl (fun z68 e68 l68 u68 => ?_)
                    refine ev_loc f_X12_odds (nx := 73) (lo' := [(3, .int z68), (4, .int y44_4), (0, .ref 69), (1, .int ar1), (2, .int ar2)]) rfl rfl rfl rfl ?_
                    refine ev_incR f_X12_odds (nx := 76) (c := 1) (l := 1) (u := 20) rfl rfl (by decide) (by decide) l44_4 u52 rfl rfl (by decide) (by decide) rfl (fun z69 e69 l69 u69 => ?_)
                    refine ev_jmp f_X12_odds (nx := 37) rfl rfl rfl ?_
                    refine ev_sub (lo := [(4, .int z69), (3, .int z68), (0, .ref 69), (1, .int ar1), (2, .int ar2)]) rfl (t_sc rfl (t_sc rfl (t_sc rfl (t_sc rfl (t_sc rfl t_sn))))) ?_
                    exact ih44 _ (by omega) gi54 gl54 gr54 (z69) (z68) hI hX  (Int.le_trans (by decide : (0:Int) ≤ 1) l69) u69 l68 u68 ((hC54.1 70 8 rfl).1.trans c44_0) (by have hq := ((funext (fun j => (hC54.1 70 j rfl).1) : gi54 70 = gi44 70)); rw [hq]; exact j44_0) (by omega) (by omega) rfl
              refine ev_sub (lo := [(4, .int 0), (3, .int 0), (0, .ref 69), (1, .int ar1), (2, .int ar2)]) rfl (t_sc rfl (t_sc rfl (t_sc rfl (t_sc rfl (t_sc rfl t_sn))))) ?_
              exact L44 _ gi gl gr (0) (0) hI hX  (by decide : (0:Int) ≤ (0:Int32).toInt) (Int.le_trans (by decide : (0:Int32).toInt ≤ (0:Int)) (by decide : (0:Int) ≤ 20)) (by decide : (0:Int) ≤ (0:Int32).toInt) (Int.le_trans (by decide : (0:Int32).toInt ≤ (0:Int)) (by decide : (0:Int) ≤ 20)) rfl e_p0 (by have kf70 : (0 : Int32).toInt = 0 := (by decide); omega) (by have kf71 : (0 : Int32).toInt = 0 := (by decide); omega) rfl
/-! ===== odds: whether it is answered, the same on both sides ===== -/
section ODS
variable {sh : List (Nat ⊕ (Nat × Nat))} {gi g1 g2 : Nat → Nat → Int32} {gl l1 l2 : Nat → Nat → Int64} {gr r1 r2 : Nat → Nat → Value} {w1 : List (Nat × Nat)} {A A2 x1 x2 : Int32}
theorem t_RN_8 {n : Nat} {v : Value} (h : t_RN n gi v 0) : v ≠ .null ↔ (gi 70 8).toInt ≠ 0 := by
  rcases h with ⟨a, _, b⟩ | ⟨u, a, _, _, b⟩
  · have b8 : (gi 70 8).toInt = 0 := b
    exact ⟨fun h => absurd a h, fun h => absurd b8 h⟩
  · have b8 : (gi 70 8).toInt = 1 := b
    exact ⟨fun _ => by omega, fun _ h2 => by cases a.symm.trans h2⟩
theorem t_L_odds (hS : t_RnN sh.length gi gr) (f1 : t_F w1 gi gl gr g1 l1 r1) (h70 : t_nc w1 70 = true) (q1 : Q_d_odds gi gl gr A A2 x1 g1 l1 r1) (q2 : Q_e_odds g1 l1 r1 A A2 x2 g2 l2 r2) : x1 = x2 := by
  have r70 : g1 70 = gi 70 := t_F_nc f1 h70 (by decide)
  have k2 := q2
  unfold Q_e_odds at k2
  rw [r70] at k2
  have h8 := t_RN_8 hS.1
  apply Int32.toInt_inj.mp
  by_cases hin : (0 ≤ A.toInt ∧ A.toInt ≤ 9999 ∧ 1 ≤ A2.toInt ∧ A2.toInt ≤ 20 ∧ A.toInt + A2.toInt ≤ 10000) ∧ gr 0 7 ≠ .null
  · rw [q1.1 hin, k2.1 ⟨hin.1, h8.mp hin.2⟩]
  · rw [q1.2 hin, k2.2 (fun h => hin ⟨h.1, h8.mpr h.2⟩)]
end ODS
/-! ===== CODES: the first row of calls, each behind the one ahead, all told apart ===== -/
noncomputable def s_ft (H : Nat → Int64) (l : List Nat) (v : Nat) : Prop := ∀ a, a ∈ l → H a ≠ H v ∧ ∀ b, b ∈ l → a ≠ b → (H a ||| H b) ≠ H v ∧ (H a ||| H v) ≠ H b
noncomputable def s_ic (H : Nat → Int64) : List Nat → Prop
  | [] => True
  | v :: l => s_ft H l v ∧ s_ic H l
/-- each behind the one ahead; the latest first -/
noncomputable def s_dc : List Nat → Prop
  | [] => True
  | v :: l => (∀ a, a ∈ l → a < v) ∧ s_dc l
noncomputable def s_oq (x y : Option (List Nat)) : Option (List Nat) := x.elim y some
noncomputable def s_xr (H : Nat → Int64) (e m : Nat) : Nat → List Nat → Nat → Option (List Nat)
  | 0, _, _ => none
  | f + 1, l, v => s_if (v < e) (s_if (s_ft H l v) (s_oq (s_if (l.length + 1 = m) (some (v :: l)) (s_xr H e m f (v :: l) (v + 1))) (s_xr H e m f l (v + 1))) (s_xr H e m f l (v + 1))) none
/-- behind what is chosen, from v on: the first row of m -/
noncomputable def s_X (H : Nat → Int64) (e m : Nat) (l : List Nat) (v : Nat) : Option (List Nat) := s_xr H e m (e + 1 - v) l v
/-- and, if none, by what was chosen ahead -/
noncomputable def s_aq (H : Nat → Int64) (e m : Nat) : List Nat → Nat → Option (List Nat)
  | [], v => s_X H e m [] v
  | c :: l, v => s_oq (s_X H e m (c :: l) v) (s_aq H e m l (c + 1))
section COD
variable {H : Nat → Int64} {e m v : Nat} {l L : List Nat} {x y z : Option (List Nat)} {r : List Nat}
theorem s_or_n : s_oq none y = y := rfl
theorem s_or_s : s_oq (some r) y = some r := rfl
theorem s_or_as : s_oq (s_oq x y) z = s_oq x (s_oq y z) := by
  cases x with
  | none => rfl
  | some a => rfl
theorem s_X_e (h : e ≤ v) : s_X H e m l v = none := by
  unfold s_X
  by_cases hv : e + 1 - v = 0
  · rw [hv]; rfl
  · rw [show e + 1 - v = 0 + 1 by omega]
    exact s_ifF (by omega)
theorem s_X_s (h : v < e) (hf : s_ft H l v) : s_X H e m l v = s_oq (s_if (l.length + 1 = m) (some (v :: l)) (s_X H e m (v :: l) (v + 1))) (s_X H e m l (v + 1)) := by
  unfold s_X
  rw [show e + 1 - v = (e + 1 - (v + 1)) + 1 by omega]
  exact (s_ifT h).trans (s_ifT hf)
theorem s_X_n (hf : ¬ s_ft H l v) : s_X H e m l v = s_X H e m l (v + 1) := by
  by_cases h : v < e
  · unfold s_X
    rw [show e + 1 - v = (e + 1 - (v + 1)) + 1 by omega]
    exact (s_ifT h).trans (s_ifF hf)
  · rw [s_X_e (by omega), s_X_e (by omega)]
theorem s_aq_e0 (h : e ≤ v) : s_aq H e m [] v = none := s_X_e h
theorem s_aq_e (h : e ≤ v) {c : Nat} : s_aq H e m (c :: l) v = s_aq H e m l (c + 1) := by
  show s_oq (s_X H e m (c :: l) v) (s_aq H e m l (c + 1)) = _
  rw [s_X_e h]; rfl
theorem s_aq_n (hf : ¬ s_ft H l v) : s_aq H e m l v = s_aq H e m l (v + 1) := by
  cases l with
  | nil => exact s_X_n hf
  | cons c l =>
    show s_oq (s_X H e m (c :: l) v) (s_aq H e m l (c + 1)) = s_oq (s_X H e m (c :: l) (v + 1)) (s_aq H e m l (c + 1))
    rw [s_X_n hf]
theorem s_aq_d (h : v < e) (hf : s_ft H l v) (hm : l.length + 1 ≠ m) : s_aq H e m l v = s_aq H e m (v :: l) (v + 1) := by
  cases l with
  | nil =>
    show s_X H e m [] v = s_oq (s_X H e m [v] (v + 1)) (s_X H e m [] (v + 1))
    rw [s_X_s h hf, s_ifF hm]
  | cons c l =>
    show s_oq (s_X H e m (c :: l) v) (s_aq H e m l (c + 1)) = s_oq (s_X H e m (v :: c :: l) (v + 1)) (s_oq (s_X H e m (c :: l) (v + 1)) (s_aq H e m l (c + 1)))
    rw [s_X_s h hf, s_ifF hm, s_or_as]
theorem s_aq_f (h : v < e) (hf : s_ft H l v) (hm : l.length + 1 = m) : s_aq H e m l v = some (v :: l) := by
  cases l with
  | nil =>
    show s_X H e m [] v = _
    rw [s_X_s h hf, s_ifT hm]; rfl
  | cons c l =>
    show s_oq (s_X H e m (c :: l) v) (s_aq H e m l (c + 1)) = _
    rw [s_X_s h hf, s_ifT hm]; rfl
end COD
/-- a row of numbers that holds what is chosen -/
noncomputable def s_RW (g : Nat → Int32) : List Nat → Prop
  | [] => True
  | c :: l => (g l.length).toInt = (c : Int) ∧ s_RW g l
/-- told by places -/
noncomputable def s_fx (R : Nat → Int64) (m : Nat) : Prop := ∀ a, a < m → R a ≠ R m ∧ ∀ b, b < m → a ≠ b → (R a ||| R b) ≠ R m ∧ (R a ||| R m) ≠ R b
noncomputable def s_fy (R : Nat → Int64) (m a : Nat) : Prop := R a ≠ R m ∧ ∀ b, b < m → a ≠ b → (R a ||| R b) ≠ R m ∧ (R a ||| R m) ≠ R b
noncomputable def s_ix (R : Nat → Int64) (m : Nat) : Prop := ∀ a, a < m → ∀ b, b < a → R a ≠ R b ∧ ∀ c, c < m → c ≠ a → c ≠ b → (R a ||| R b) ≠ R c
noncomputable def s_rh (H : Nat → Int64) (g : Nat → Int32) (i : Nat) : Int64 := H (g i).toInt.toNat
section ROW
variable {H : Nat → Int64} {g g' : Nat → Int32} {R : Nat → Int64} {m v : Nat} {l L : List Nat}
theorem s_RW_ix : ∀ {l : List Nat}, s_RW g l → ∀ i, i < l.length → ∃ a, a ∈ l ∧ (g i).toInt = (a : Int)
  | [], _, i, hi => absurd hi (by rw [List.length_nil]; omega)
  | c :: l, h, i, hi => by
    by_cases hk : i = l.length
    · exact ⟨c, List.mem_cons_self, by rw [hk]; exact h.1⟩
    · rw [List.length_cons] at hi
      obtain ⟨a, h1, h2⟩ := s_RW_ix h.2 i (by omega)
      exact ⟨a, List.mem_cons_of_mem _ h1, h2⟩
theorem s_RW_mem : ∀ {l : List Nat}, s_RW g l → ∀ a, a ∈ l → ∃ i, i < l.length ∧ (g i).toInt = (a : Int)
  | [], _, a, ha => absurd ha (by intro hh; cases hh)
  | c :: l, h, a, ha => by
    rcases List.mem_cons.mp ha with h1 | h1
    · exact ⟨l.length, by rw [List.length_cons]; omega, by rw [h1]; exact h.1⟩
    · obtain ⟨i, h2, h3⟩ := s_RW_mem h.2 a h1
      exact ⟨i, by rw [List.length_cons]; omega, h3⟩
theorem s_RW_eq : ∀ {l : List Nat}, s_RW g l → (∀ j, j < l.length → g' j = g j) → s_RW g' l
  | [], _, _ => trivial
  | c :: l, h, e => ⟨by rw [e _ (by rw [List.length_cons]; omega)]; exact h.1, s_RW_eq h.2 (fun j hj => e j (by rw [List.length_cons]; omega))⟩
theorem s_RW_inc : ∀ {l : List Nat}, s_dc l → s_RW g l → ∀ i j, i < j → j < l.length → (g i).toInt < (g j).toInt
  | [], _, _, i, j, _, hj => absurd hj (by rw [List.length_nil]; omega)
  | c :: l, hd, h, i, j, hij, hj => by
    rw [List.length_cons] at hj
    by_cases hk : j = l.length
    · obtain ⟨a, h1, h2⟩ := s_RW_ix h.2 i (by omega)
      have h3 := hd.1 a h1
      rw [hk, h.1, h2]; omega
    · exact s_RW_inc hd.2 h.2 i j hij (by omega)
theorem s_rh_of {a i : Nat} (h : (g i).toInt = (a : Int)) : s_rh H g i = H a := by
  unfold s_rh; rw [h, Int.toNat_natCast]
theorem s_ft_ix (hd : s_dc (v :: l)) (hr : s_RW g (v :: l)) : s_ft H l v ↔ s_fx (s_rh H g) l.length := by
  have ev : s_rh H g l.length = H v := s_rh_of hr.1
  constructor
  · intro h a ha
    obtain ⟨a', m1, e1⟩ := s_RW_ix hr.2 a ha
    rw [ev, s_rh_of e1]
    refine ⟨(h a' m1).1, fun b hb hab => ?_⟩
    obtain ⟨b', m2, e2⟩ := s_RW_ix hr.2 b hb
    rw [s_rh_of e2]
    refine (h a' m1).2 b' m2 (fun hh => ?_)
    rcases Nat.lt_or_gt_of_ne hab with h1 | h1
    · have := s_RW_inc hd.2 hr.2 a b h1 hb; omega
    · have := s_RW_inc hd.2 hr.2 b a h1 ha; omega
  · intro h a ha
    obtain ⟨i, m1, e1⟩ := s_RW_mem hr.2 a ha
    have h1 := h i m1
    rw [ev, s_rh_of e1] at h1
    refine ⟨h1.1, fun b hb hab => ?_⟩
    obtain ⟨j, m2, e2⟩ := s_RW_mem hr.2 b hb
    have h2 := h1.2 j m2 (fun hh => hab (by rw [hh] at e1; omega))
    rw [s_rh_of e2] at h2
    exact h2
theorem s_ix_s : s_ix R (m + 1) ↔ s_ix R m ∧ s_fx R m := by
  constructor
  · intro h
    refine ⟨fun a ha b hb => ⟨(h a (by omega) b hb).1, fun c hc => (h a (by omega) b hb).2 c (by omega)⟩, fun a ha => ?_⟩
    refine ⟨fun hh => (h m (by omega) a ha).1 hh.symm, fun b hb hab => ⟨?_, ?_⟩⟩
    · rcases Nat.lt_or_gt_of_ne hab with h1 | h1
      · rw [Int64.or_comm]; exact (h b (by omega) a h1).2 m (by omega) (by omega) (by omega)
      · exact (h a (by omega) b h1).2 m (by omega) (by omega) (by omega)
    · rw [Int64.or_comm]; exact (h m (by omega) a ha).2 b (by omega) (by omega) (by omega)
  · rintro ⟨h, f⟩ a ha b hb
    by_cases ham : a = m
    · subst ham
      refine ⟨fun hh => (f b hb).1 hh.symm, fun c hc h1 h2 => ?_⟩
      rw [Int64.or_comm]; exact ((f b hb).2 c (by omega) (by omega)).2
    · refine ⟨(h a (by omega) b hb).1, fun c hc h1 h2 => ?_⟩
      by_cases hcm : c = m
      · subst hcm; exact ((f a (by omega)).2 b (by omega) (by omega)).1
      · exact (h a (by omega) b hb).2 c (by omega) h1 h2
theorem s_ic_ix : ∀ {L : List Nat}, s_dc L → s_RW g L → (s_ic H L ↔ s_ix (s_rh H g) L.length)
  | [], _, _ => ⟨fun _ a ha => absurd ha (by rw [List.length_nil]; omega), fun _ => trivial⟩
  | v :: l, hd, hr => by
    rw [List.length_cons, s_ix_s, ← s_ft_ix hd hr, ← s_ic_ix hd.2 hr.2]
    exact and_comm
end ROW
/-- call k: so many letters, by the alphabet -/
noncomputable def s_cn (k : Nat) : Nat := if k < 2 then 1 else if k < 6 then 2 else if k < 14 then 3 else 4
noncomputable def s_bK (n c t : Nat) : Int32 := if c / 2 ^ (n - 1 - t) % 2 = 1 then 115 else 108
noncomputable def s_cw (n c j : Nat) : Int64 := s_ll (s_bK n c) 0 j
noncomputable def s_cL (k : Nat) : Int64 := s_cw (s_cn k) (k + 2 - 2 ^ s_cn k) (s_cn k)
/-- as it is HEARD -/
noncomputable def s_ch (e : Int) (k : Nat) : Int64 := s_ec (s_snd (s_cL k)) e
/-- how many have so many letters at most -/
noncomputable def s_cE (n : Nat) : Nat := 2 ^ (n + 1) - 2
section CG
variable {H H' : Nat → Int64} {e m : Nat}
theorem s_ft_cg {l : List Nat} {v : Nat} (h : ∀ a, a ∈ l → H' a = H a) (hv : H' v = H v) : s_ft H' l v ↔ s_ft H l v := by
  constructor
  · intro f a ha
    have h1 := f a ha
    rw [h a ha, hv] at h1
    refine ⟨h1.1, fun b hb hab => ?_⟩
    have h2 := h1.2 b hb hab
    rw [h b hb] at h2; exact h2
  · intro f a ha
    rw [h a ha, hv]
    refine ⟨(f a ha).1, fun b hb hab => ?_⟩
    rw [h b hb]; exact (f a ha).2 b hb hab
theorem s_xr_cg (h : ∀ a, a < e → H' a = H a) : ∀ (f : Nat) (l : List Nat) (v : Nat), (∀ a, a ∈ l → a < e) → s_xr H' e m f l v = s_xr H e m f l v
  | 0, _, _, _ => rfl
  | f + 1, l, v, hl => by
    show s_if (v < e) (s_if (s_ft H' l v) (s_oq (s_if (l.length + 1 = m) (some (v :: l)) (s_xr H' e m f (v :: l) (v + 1))) (s_xr H' e m f l (v + 1))) (s_xr H' e m f l (v + 1))) none = s_if (v < e) (s_if (s_ft H l v) (s_oq (s_if (l.length + 1 = m) (some (v :: l)) (s_xr H e m f (v :: l) (v + 1))) (s_xr H e m f l (v + 1))) (s_xr H e m f l (v + 1))) none
    by_cases hv : v < e
    · have hl2 : ∀ a, a ∈ v :: l → a < e := fun a ha => by
        rcases List.mem_cons.mp ha with h1 | h1
        · rw [h1]; exact hv
        · exact hl a h1
      rw [s_ifT hv, s_ifT hv, s_xr_cg h f (v :: l) (v + 1) hl2, s_xr_cg h f l (v + 1) hl]
      have hf := s_ft_cg (H := H) (H' := H') (l := l) (v := v) (fun a ha => h a (hl a ha)) (h v hv)
      by_cases hh : s_ft H l v
      · rw [s_ifT hh, s_ifT (hf.mpr hh)]
      · rw [s_ifF hh, s_ifF (fun x => hh (hf.mp x))]
    · rw [s_ifF hv, s_ifF hv]
theorem s_X_cg (h : ∀ a, a < e → H' a = H a) : s_X H' e m [] 0 = s_X H e m [] 0 := s_xr_cg h _ _ _ (fun a ha => absurd ha (by intro hh; cases hh))
end CG
/-- so many letters at most: how many calls of these so far -/
theorem s_cE_all : ((List.range 30).all (fun k => ([1, 2, 3, 4] : List Nat).all (fun n => decide (s_cn k ≤ n ↔ k < s_cE n)))) = true := by decide +kernel
theorem s_cE_k {k n : Nat} (hk : k < 30) (h1 : 1 ≤ n) (h4 : n ≤ 4) : s_cn k ≤ n ↔ k < s_cE n := by
  have h2 := List.all_eq_true.mp (List.all_eq_true.mp s_cE_all k (List.mem_range.mpr hk)) n (by
    have h5 : n = 1 ∨ n = 2 ∨ n = 3 ∨ n = 4 := by omega
    rcases h5 with rfl | rfl | rfl | rfl <;> decide)
  exact of_decide_eq_true h2
theorem s_cE_b {n : Nat} (h1 : 1 ≤ n) (h4 : n ≤ 4) : 2 ≤ s_cE n ∧ s_cE n ≤ 30 := by
  have h5 : n = 1 ∨ n = 2 ∨ n = 3 ∨ n = 4 := by omega
  rcases h5 with rfl | rfl | rfl | rfl <;> decide
/-- what the class's calls are -/
noncomputable def t_CL (gi : Nat → Nat → Int32) (gl : Nat → Nat → Int64) : Prop := (gi 22 3).toInt = 30 ∧ ∀ k : Nat, k < 30 → gl 23 k = s_cL k ∧ (gi 24 k).toInt = (s_cn k : Nat)
/-- all blasts of a row -/
noncomputable def s_sI (F : Nat → Int32) : Nat → Int32
  | 0 => 0
  | k + 1 => s_sI F k + F k
theorem s_sI_cg {F G : Nat → Int32} : ∀ k : Nat, (∀ i, i < k → F i = G i) → s_sI F k = s_sI G k
  | 0, _ => rfl
  | k + 1, h => by
    show s_sI F k + F k = s_sI G k + G k
    rw [s_sI_cg k (fun i hi => h i (by omega)), h k (by omega)]
theorem s_RW_two {g g' : Nat → Int32} : ∀ {l : List Nat}, s_RW g l → s_RW g' l → ∀ i, i < l.length → (g i).toInt = (g' i).toInt
  | [], _, _, i, hi => absurd hi (by rw [List.length_nil]; omega)
  | c :: l, h, h', i, hi => by
    by_cases hk : i = l.length
    · rw [hk, h.1, h'.1]
    · rw [List.length_cons] at hi
      exact s_RW_two h.2 h'.2 i (by omega)
theorem s_cL_x {n c k : Nat} (h : (n = 1 ∧ k = c ∧ c < 2) ∨ (n = 2 ∧ k = 2 + c ∧ c < 4) ∨ (n = 3 ∧ k = 6 + c ∧ c < 8) ∨ (n = 4 ∧ k = 14 + c ∧ c < 16)) : s_cn k = n ∧ s_cL k = s_cw n c n := by
  have key : s_cn k = n ∧ k + 2 - 2 ^ n = c := by
    unfold s_cn
    rcases h with ⟨h1, h2, h3⟩ | ⟨h1, h2, h3⟩ | ⟨h1, h2, h3⟩ | ⟨h1, h2, h3⟩
    · subst h1 h2; rw [if_pos (by omega)]; exact ⟨rfl, by omega⟩
    · subst h1 h2; rw [if_neg (by omega), if_pos (by omega)]; exact ⟨rfl, by omega⟩
    · subst h1 h2; rw [if_neg (by omega), if_neg (by omega), if_pos (by omega)]; exact ⟨rfl, by omega⟩
    · subst h1 h2; rw [if_neg (by omega), if_neg (by omega), if_neg (by omega)]; exact ⟨rfl, by omega⟩
  refine ⟨key.1, ?_⟩
  unfold s_cL
  rw [key.1, key.2]
theorem s_bK_v {n c t : Nat} : (s_bK n c t).toInt = 108 ∨ (s_bK n c t).toInt = 115 := by
  unfold s_bK
  by_cases h : c / 2 ^ (n - 1 - t) % 2 = 1
  · rw [if_pos h]; exact Or.inr rfl
  · rw [if_neg h]; exact Or.inl rfl
theorem s_bit_all : ((List.range 16).all (fun c => (List.range 4).all (fun a => decide ((((Int32.ofNat c) >>> ((Int32.ofNat a) &&& 31)) &&& 1) = 1 ↔ c / 2 ^ a % 2 = 1)))) = true := by decide +kernel
theorem s_bit {c a s w : Int32} (h0 : 0 ≤ c.toInt) (h1 : c.toInt ≤ 15) (h2 : 0 ≤ a.toInt) (h3 : a.toInt ≤ 3) (es : s = c >>> (a &&& 31)) (ew : w = s &&& 1) : w = 1 ↔ c.toNatClampNeg / 2 ^ a.toNatClampNeg % 2 = 1 := by
  have cc := t_clamp h0
  have ca := t_clamp h2
  have k := of_decide_eq_true (List.all_eq_true.mp (List.all_eq_true.mp s_bit_all c.toNatClampNeg (List.mem_range.mpr (by omega))) a.toNatClampNeg (List.mem_range.mpr (by omega)))
  have e1 : Int32.ofNat c.toNatClampNeg = c := by
    apply Int32.toInt_inj.mp
    rw [Int32.toInt_ofNat_of_lt (by omega)]; exact cc
  have e2 : Int32.ofNat a.toNatClampNeg = a := by
    apply Int32.toInt_inj.mp
    rw [Int32.toInt_ofNat_of_lt (by omega)]; exact ca
  rw [e1, e2, ← es, ← ew] at k
  exact k
/-! the other side's search: what stands at each turn of its loop -/
noncomputable def s_MI (H : Nat → Int64) (e m : Nat) (g : Nat → Int32) (n a : Int) : Prop := (n < 0 → s_X H e m [] 0 = none) ∧ (0 ≤ n → ∃ l : List Nat, (l.length : Int) = n ∧ s_RW g l ∧ s_dc l ∧ s_ic H l ∧ (∀ x, x ∈ l → x < e) ∧ ((n = a ∧ s_X H e m [] 0 = some l) ∨ (n < a ∧ (∀ x, x ∈ l → (x : Int) ≤ (g n.toNat).toInt) ∧ s_X H e m [] 0 = s_aq H e m l ((g n.toNat).toInt + 1).toNat)))
section MIS
variable {H H' : Nat → Int64} {e m : Nat} {g g1 g2 : Nat → Int32} {n a z : Int}
theorem s_ic_cg : ∀ {L : List Nat}, (∀ x, x ∈ L → H' x = H x) → (s_ic H' L ↔ s_ic H L)
  | [], _ => Iff.rfl
  | v :: l, h => by
    have h1 := s_ft_cg (H := H) (H' := H') (l := l) (v := v) (fun x hx => h x (List.mem_cons_of_mem _ hx)) (h v List.mem_cons_self)
    have h2 := s_ic_cg (L := l) (fun x hx => h x (List.mem_cons_of_mem _ hx))
    show s_ft H' l v ∧ s_ic H' l ↔ s_ft H l v ∧ s_ic H l
    rw [h1, h2]
theorem s_MI_0 (h1 : 1 ≤ a) (e0 : (g 0).toInt = -1) : s_MI H e m g 0 a := by
  refine ⟨fun hh => by omega, fun _ => ⟨[], rfl, trivial, trivial, trivial, fun x hx => absurd hx (by intro hh; cases hh), Or.inr ⟨by omega, fun x hx => absurd hx (by intro hh; cases hh), ?_⟩⟩⟩
  show _ = s_aq H e m [] ((g 0).toInt + 1).toNat
  rw [e0]; rfl
theorem s_MI_A (h : s_MI H e m g n a) (hn : 0 ≤ n) (hna : n < a) (hz : z = (g n.toNat).toInt + 1) (he : (e : Int) ≤ z) (hg : ∀ j, j ≠ n.toNat → g1 j = g j) : s_MI H e m g1 (n - 1) a := by
  obtain ⟨l, hl, hr, hd, hi, hb, hc⟩ := h.2 hn
  obtain ⟨_, hle, hs⟩ := hc.resolve_left (fun hh => by have := hh.1; omega)
  cases l with
  | nil =>
    rw [List.length_nil] at hl
    refine ⟨fun _ => ?_, fun hh => by omega⟩
    rw [hs]; exact s_aq_e0 (by omega)
  | cons c t =>
    rw [List.length_cons] at hl
    have hk : (n - 1).toNat = t.length := by omega
    have hcn : (g1 (n - 1).toNat).toInt = (c : Int) := by rw [hk, hg _ (by omega)]; exact hr.1
    refine ⟨fun hh => by omega, fun _ => ⟨t, by omega, s_RW_eq hr.2 (fun j hj => hg j (by omega)), hd.2, hi.2, fun x hx => hb x (List.mem_cons_of_mem _ hx), Or.inr ⟨by omega, fun x hx => ?_, ?_⟩⟩⟩
    · have := hd.1 x hx; rw [hcn]; omega
    · rw [hs, s_aq_e (by omega), hcn, show ((c : Int) + 1).toNat = c + 1 by omega]
/-- what both further roads share -/
theorem s_MI_r (h : s_MI H e m g n a) (hn : 0 ≤ n) (hna : n < a) (hz : z = (g n.toNat).toInt + 1) (hz0 : 0 ≤ z) (he : z < (e : Int)) (h1 : (g1 n.toNat).toInt = z) (hg : ∀ j, j ≠ n.toNat → g1 j = g j) (hH : ∀ x, x < e → H' x = H x) : ∃ l : List Nat, ((l.length : Int) = n ∧ s_RW g l ∧ s_dc l ∧ s_ic H l ∧ (∀ x, x ∈ l → x < e)) ∧ ((∀ x, x ∈ l → (x : Int) < z) ∧ s_X H e m [] 0 = s_aq H e m l z.toNat) ∧ (s_RW g1 (z.toNat :: l) ∧ s_dc (z.toNat :: l)) ∧ (s_ic H (z.toNat :: l) ↔ s_ix (s_rh H' g1) (n.toNat + 1)) := by
  obtain ⟨l, hl, hr, hd, hi, hb, hc⟩ := h.2 hn
  obtain ⟨_, hle, hs⟩ := hc.resolve_left (fun hh => by have := hh.1; omega)
  rw [← hz] at hs
  have hln : l.length = n.toNat := by omega
  have hr2 : s_RW g1 (z.toNat :: l) := And.intro (by rw [hln, h1]; omega) (s_RW_eq hr (fun j hj => hg j (by omega)))
  have hd2 : s_dc (z.toNat :: l) := And.intro (fun x hx => by have := hle x hx; omega) hd
  have hic := s_ic_ix (H := H') hd2 hr2
  rw [List.length_cons, hln] at hic
  have hcg : s_ic H' (z.toNat :: l) ↔ s_ic H (z.toNat :: l) := s_ic_cg (fun x hx => hH x (by
    rcases List.mem_cons.mp hx with h2 | h2
    · omega
    · exact hb x h2))
  exact ⟨l, ⟨hl, hr, hd, hi, hb⟩, ⟨fun x hx => by have := hle x hx; omega, hs⟩, ⟨hr2, hd2⟩, hcg.symm.trans hic⟩
theorem s_MI_B (h : s_MI H e m g n a) (hn : 0 ≤ n) (hna : n < a) (hz : z = (g n.toNat).toInt + 1) (hz0 : 0 ≤ z) (he : z < (e : Int)) (h1 : (g1 n.toNat).toInt = z) (hg : ∀ j, j ≠ n.toNat → g1 j = g j) (hH : ∀ x, x < e → H' x = H x) (hf : ¬ s_ix (s_rh H' g1) (n.toNat + 1)) : s_MI H e m g1 n a := by
  obtain ⟨l, ⟨hl, hr, hd, hi, hb⟩, ⟨hle, hs⟩, _, hic⟩ := s_MI_r h hn hna hz hz0 he h1 hg hH
  have hnf : ¬ s_ft H l z.toNat := fun hf2 => hf (hic.mp (And.intro hf2 hi))
  refine ⟨fun hh => by omega, fun _ => ⟨l, hl, s_RW_eq hr (fun j hj => hg j (by omega)), hd, hi, hb, Or.inr ⟨hna, fun x hx => ?_, ?_⟩⟩⟩
  · have := hle x hx; rw [h1]; omega
  · rw [hs, s_aq_n hnf, h1, show (z + 1).toNat = z.toNat + 1 by omega]
theorem s_MI_C (h : s_MI H e m g n a) (hn : 0 ≤ n) (hna : n < a) (hz : z = (g n.toNat).toInt + 1) (hz0 : 0 ≤ z) (he : z < (e : Int)) (h1 : (g1 n.toNat).toInt = z) (hg : ∀ j, j ≠ n.toNat → g1 j = g j) (hH : ∀ x, x < e → H' x = H x) (hf : s_ix (s_rh H' g1) (n.toNat + 1)) (hm : (m : Int) = a) (h2 : (g2 (n.toNat + 1)).toInt = z) (hg2 : ∀ j, j ≠ n.toNat + 1 → g2 j = g1 j) : s_MI H e m g2 (n + 1) a := by
  obtain ⟨l, ⟨hl, hr, hd, hi, hb⟩, ⟨hle, hs⟩, ⟨hr2, hd2⟩, hic⟩ := s_MI_r h hn hna hz hz0 he h1 hg hH
  have hic2 := hic.mpr hf
  have hft : s_ft H l z.toNat := hic2.1
  have hn1 : (n + 1).toNat = n.toNat + 1 := by omega
  refine ⟨fun hh => by omega, fun _ => ⟨z.toNat :: l, by rw [List.length_cons]; omega, s_RW_eq hr2 (fun j hj => hg2 j (by rw [List.length_cons] at hj; omega)), hd2, hic2, fun x hx => ?_, ?_⟩⟩
  · rcases List.mem_cons.mp hx with h3 | h3
    · omega
    · exact hb x h3
  · by_cases hm2 : n + 1 = a
    · exact Or.inl ⟨hm2, by rw [hs]; exact s_aq_f (by omega) hft (by omega)⟩
    · refine Or.inr ⟨by omega, fun x hx => ?_, ?_⟩
      · rw [hn1, h2]
        rcases List.mem_cons.mp hx with h3 | h3
        · omega
        · have := hle x h3; omega
      · rw [hs, s_aq_d (by omega) hft (by omega), hn1, h2, show (z + 1).toNat = z.toNat + 1 by omega]
end MIS
