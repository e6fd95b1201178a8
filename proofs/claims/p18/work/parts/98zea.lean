/-! ===== printed by riv.py: PARTS ===== -/
noncomputable def wl_d_parts : List (Nat × Nat) := [(0, 0)]
noncomputable def Q_d_parts (gi : Nat → Nat → Int32) (gl : Nat → Nat → Int64) (gr : Nat → Nat → Value) (ar1 : Int64) : Int32 → (Nat → Nat → Int32) → (Nat → Nat → Int64) → (Nat → Nat → Value) → Prop := fun (v : Int32) (gi2 : Nat → Nat → Int32) (gl2 : Nat → Nat → Int64) (gr2 : Nat → Nat → Value) => ∀ (u : Nat) (D : s_D), gr 0 6 = .ref u → t_VL gr u → t_CV gi gl u D → t_Cb D → (1 ≤ ar1.toInt → v = s_pt D ar1 (D 0).toNat) ∧ (ar1.toInt < 1 → v.toInt = -1)
theorem c_d_parts {X : x_Ext} {d : Nat} {sh : List (Nat ⊕ (Nat × Nat))} {gi : Nat → Nat → Int32} {gl : Nat → Nat → Int64} {gr : Nat → Nat → Value} (hI : t_I sh gi gr) (ar1 : Int64) : x_Me X (d + 3) n_X11_parts [.ref 0, .long ar1] (sh, gi, gl, gr) (t_PI wl_d_parts sh gi gl gr (-2147483648) 2147483647 (Q_d_parts gi gl gr ar1)) := by
  have hX : t_X wl_d_parts sh gi gl gr gi gl gr := t_X.rf
  refine me_i f_X11_parts (hI.wf.s rfl) rfl rfl rfl ?_
  refine ev_loc f_X11_parts (nx := 1) rfl rfl rfl rfl ?_
  refine ev_lc f_X11_parts (nx := 2) (v := 1) rfl (by decide) rfl ?_
  refine ev_anyIE f_X11_parts (nx := 3) rfl rfl rfl rfl (fun z1 e1 => ?_)
  refine ev_if f_X11_parts (t1 := 12) (t2 := 6) rfl rfl rfl (fun h2 => ?_) (fun h2 => ?_)
  · have l3 : 0 ≤ z1.toInt := t_lel h2 (by decide : (0:Int) ≤ (0:Int32).toInt)
    refine ev_ic f_X11_parts (nx := 13) (v := 0) rfl (by decide) rfl ?_
    refine ev_loc f_X11_parts (nx := 14) (lo' := [(3, .int 0), (0, .ref 0), (1, .long ar1)]) rfl rfl rfl rfl ?_
    refine ev_ic f_X11_parts (nx := 15) (v := 0) rfl (by decide) rfl ?_
    refine ev_loc f_X11_parts (nx := 17) (lo' := [(4, .int 0), (3, .int 0), (0, .ref 0), (1, .long ar1)]) rfl rfl rfl rfl ?_
    have L4 : ∀ (m4 : Nat) (y4_4 : Int32) (y4_3 : Int32), 0 ≤ y4_4.toInt → y4_4.toInt ≤ 6 → (∀ (u : Nat) (D : s_D), gr 0 6 = .ref u → t_VL gr u → t_CV gi gl u D → t_Cb D → y4_3 = s_pt D ar1 y4_4.toNatClampNeg ∧ y4_4.toInt ≤ D 0) → (6 - y4_4.toInt).toNat = m4 → x_Ev X (d + 3) n_X11_parts 17 [(4, .int y4_4), (3, .int y4_3), (0, .ref 0), (1, .long ar1)] [] (sh, gi, gl, gr) (t_PI wl_d_parts sh gi gl gr (-2147483648) 2147483647 (Q_d_parts gi gl gr ar1)) := by
      intro m4
      induction m4 using Nat.strongRecOn with
      | _ m4 ih4 =>
      intro y4_4 y4_3 l4_4 u4_4 j4_0 hm4
      refine ev_loc f_X11_parts (nx := 19) rfl rfl rfl rfl ?_
      refine ev_loc f_X11_parts (nx := 20) rfl rfl rfl rfl ?_
      obtain ⟨a5, e5, p5⟩ := hI.2.2.2.1.1
      refine ev_getR f_X11_parts (nx := 23) rfl (hI.wf.s rfl) rfl rfl e5 rfl rfl ?_
      refine ev_getI f_X11_parts (nx := 26) rfl p5.1 rfl rfl rfl ?_
      obtain ⟨l6, u6⟩ := hI.b p5.1 (t_bdK rfl : t_bd 4 0 = some (0, 6))
      refine ev_if f_X11_parts (t1 := 62) (t2 := 29) rfl rfl rfl (fun h7 => ?_) (fun h7 => ?_)
      · have r8 : (gi a5 0).toInt ≤ y4_4.toInt := Int32.le_iff_toInt_le.mp h7
        refine ev_loc f_X11_parts (nx := 63) rfl rfl rfl rfl ?_
        refine ev_loc f_X11_parts (nx := 64) rfl rfl rfl rfl ?_
        refine ev_inV2 f_X11_parts (nx := 67) (lo2 := [(0, .ref 0), (1, .int y4_3)]) rfl rfl rfl rfl f_X11_answer (hI.wf.s rfl) rfl rfl rfl rfl rfl ?_
        refine ev_loc f_X11_answer (nx := 1) rfl rfl rfl rfl ?_
        refine ev_ic f_X11_answer (nx := 2) (v := 0) rfl (by decide) rfl ?_
        refine ev_putIT f_X11_answer (nx := 5) rfl (hI.wf.s rfl) rfl rfl rfl (hI.put0 (hI.wf.s rfl) rfl rfl) (hX.upI rfl) (fun g9 e9 hI hX => ?_)
        refine ev_loc f_X11_answer (nx := 6) rfl rfl rfl rfl ?_
        refine ev_retK1 f_X11_answer rfl rfl rfl ?_
        exact ev_ret f_X11_parts rfl rfl rfl ⟨_, _, _, rfl, hI, hX, ⟨_, rfl, (t_lo y4_3), (t_hi y4_3), (show ∀ (u : Nat) (D : s_D), gr 0 6 = .ref u → t_VL gr u → t_CV gi gl u D → t_Cb D → (1 ≤ ar1.toInt → y4_3 = s_pt D ar1 (D 0).toNat) ∧ (ar1.toInt < 1 → y4_3.toInt = -1) from (by
                                                            intro u D hu hl hc hb
                                                            obtain ⟨g1, g2⟩ := j4_0 u D hu hl hc hb
                                                            have ha : a5 = u := Value.ref.inj (e5.symm.trans hu)
                                                            subst ha
                                                            have hm := hc.1.1
                                                            have ck := t_clamp (i := y4_4) (by omega)
                                                            refine ⟨fun _ => ?_, fun h => absurd h (by have := (t_lt1r e1 h2); omega)⟩
                                                            rw [show (D 0).toNat = y4_4.toNatClampNeg from (by omega)]; exact g1))⟩⟩
      · have r10 : y4_4.toInt < (gi a5 0).toInt := Int32.lt_iff_toInt_lt.mp (t_nle h7)
        have u11 : y4_4.toInt ≤ 5 := t_ltu (t_nle h7) u6 rfl
        have l12 : 1 ≤ (gi a5 0).toInt := t_ltl (t_nle h7) l4_4 rfl
        refine ev_loc f_X11_parts (nx := 30) rfl rfl rfl rfl ?_
        refine ev_getR f_X11_parts (nx := 33) (v := .ref a5) rfl (hI.wf.s rfl) rfl rfl e5 rfl rfl ?_
        refine ev_loc f_X11_parts (nx := 35) rfl rfl rfl rfl ?_
        refine ev_qL0 f_X11_parts (nx := 38) (r := []) rfl rfl rfl rfl rfl rfl rfl (c_d_heardOf hI (a5) p5 (y4_4)) rfl (fun w13 q13 => ?_)
        have q13 : ∀ D : s_D, t_VL gr a5 → t_CV gi gl a5 D → w13 = s_hd D y4_4.toInt := q13
        refine ev_loc f_X11_parts (nx := 39) rfl rfl rfl rfl ?_
        refine ev_ldL f_X11_parts (nx := 42) (v := -1) rfl (by decide) rfl ?_
        refine ev_anyLE f_X11_parts (nx := 43) rfl rfl rfl rfl (fun z14 e14 => ?_)
        refine ev_anyLE f_X11_parts (nx := 44) rfl rfl rfl rfl (fun z15 e15 => ?_)
        refine ev_lc f_X11_parts (nx := 45) (v := 0) rfl (by decide) rfl ?_
        refine ev_anyIE f_X11_parts (nx := 46) rfl rfl rfl rfl (fun z16 e16 => ?_)
        refine ev_if f_X11_parts (t1 := 49) (t2 := 56) rfl rfl rfl (fun h17 => ?_) (fun h17 => ?_)
        · have u18 : z16.toInt ≤ 0 := t_equ h17 (by decide : (0:Int32).toInt ≤ (0:Int))
          have l19 : 0 ≤ z16.toInt := t_eql h17 (by decide : (0:Int) ≤ (0:Int32).toInt)
          refine ev_loc f_X11_parts (nx := 50) rfl rfl rfl rfl ?_
          refine ev_ic f_X11_parts (nx := 51) (v := 1) rfl (by decide) rfl ?_
          refine ev_loc f_X11_parts (nx := 53) rfl rfl rfl rfl ?_
          refine ev_anyIE f_X11_parts (nx := 54) rfl rfl rfl rfl (fun z20 e20 => ?_)
          refine ev_anyIE f_X11_parts (nx := 55) rfl rfl rfl rfl (fun z21 e21 => ?_)
          refine ev_loc f_X11_parts (nx := 56) (lo' := [(3, .int z21), (4, .int y4_4), (0, .ref 0), (1, .long ar1)]) rfl rfl rfl rfl ?_
          refine ev_incR f_X11_parts (nx := 59) (c := 1) (l := 1) (u := 6) rfl rfl (by decide) (by decide) l4_4 u11 rfl rfl (by decide) (by decide) rfl (fun z22 e22 l22 u22 => ?_)
          refine ev_jmp f_X11_parts (nx := 17) rfl rfl rfl ?_
          refine ev_sub (lo := [(4, .int z22), (3, .int z21), (0, .ref 0), (1, .long ar1)]) rfl (t_sc rfl (t_sc rfl (t_sc rfl (t_sc rfl t_sn)))) ?_
          exact ih4 _ (by omega) (z22) (z21) (Int.le_trans (by decide : (0:Int) ≤ 1) l22) u22 (by
                                                            intro u D hu hl hc hb
                                                            obtain ⟨h1, h2⟩ := j4_0 u D hu hl hc hb
                                                            have ha : a5 = u := Value.ref.inj (e5.symm.trans hu)
                                                            subst ha
                                                            have hm := hc.1.1
                                                            have hw := q13 D hl hc
                                                            exact ⟨s_pt_s1 h1 (by omega) hw e14 e15 (t_lc0 e16 h17) e20 e21 (by omega), by omega⟩) rfl
        · have r23 : z16.toInt ≠ 0 := fun e => h17 (Int32.toInt_inj.mp (e.trans (by decide : (0:Int) = (0 : Int32).toInt)))
          refine ev_incR f_X11_parts (nx := 59) (c := 1) (l := 1) (u := 6) rfl rfl (by decide) (by decide) l4_4 u11 rfl rfl (by decide) (by decide) rfl (fun z24 e24 l24 u24 => ?_)
          refine ev_jmp f_X11_parts (nx := 17) rfl rfl rfl ?_
          refine ev_sub (lo := [(4, .int z24), (3, .int y4_3), (0, .ref 0), (1, .long ar1)]) rfl (t_sc rfl (t_sc rfl (t_sc rfl (t_sc rfl t_sn)))) ?_
          exact ih4 _ (by omega) (z24) (y4_3) (Int.le_trans (by decide : (0:Int) ≤ 1) l24) u24 (by
                                                            intro u D hu hl hc hb
                                                            obtain ⟨h1, h2⟩ := j4_0 u D hu hl hc hb
                                                            have ha : a5 = u := Value.ref.inj (e5.symm.trans hu)
                                                            subst ha
                                                            have hm := hc.1.1
                                                            have hw := q13 D hl hc
                                                            exact ⟨s_pt_s0 h1 (by omega) hw e14 e15 (t_lc1 e16 h17) (by omega), by omega⟩) rfl
    refine ev_sub (lo := [(4, .int 0), (3, .int 0), (0, .ref 0), (1, .long ar1)]) rfl (t_sc rfl (t_sc rfl (t_sc rfl (t_sc rfl t_sn)))) ?_
    exact L4 _ (0) (0) (by decide : (0:Int) ≤ (0:Int32).toInt) (Int.le_trans (by decide : (0:Int32).toInt ≤ (0:Int)) (by decide : (0:Int) ≤ 6)) (fun u D hu hl hc hb => ⟨rfl, by have z0 : (0 : Int32).toInt = 0 := rfl; have := hb.1.1; omega⟩) rfl
  · have u25 : z1.toInt ≤ (-1) := t_ltu (t_nle h2) (by decide : (0:Int32).toInt ≤ (0:Int)) rfl
    refine ev_loc f_X11_parts (nx := 7) rfl rfl rfl rfl ?_
    refine ev_ic f_X11_parts (nx := 8) (v := 1) rfl (by decide) rfl ?_
    refine ev_inV2 f_X11_parts (nx := 11) (lo2 := [(0, .ref 0), (1, .int 1)]) rfl rfl rfl rfl f_X11_refuse (hI.wf.s rfl) rfl rfl rfl rfl rfl ?_
    refine ev_loc f_X11_refuse (nx := 1) rfl rfl rfl rfl ?_
    refine ev_loc f_X11_refuse (nx := 2) rfl rfl rfl rfl ?_
    refine ev_putIT f_X11_refuse (nx := 5) rfl (hI.wf.s rfl) rfl rfl rfl (hI.put0 (hI.wf.s rfl) rfl rfl) (hX.upI rfl) (fun g26 e26 hI hX => ?_)
    refine ev_ic f_X11_refuse (nx := 6) (v := -1) rfl (by decide) rfl ?_
    refine ev_retK1 f_X11_refuse rfl rfl rfl ?_
    exact ev_ret f_X11_parts rfl rfl rfl ⟨_, _, _, rfl, hI, hX, ⟨_, rfl, (Int.le_trans (by decide : ((-2147483648):Int) ≤ (-1)) (by decide : ((-1):Int) ≤ ((-1):Int32).toInt)), (Int.le_trans (by decide : ((-1):Int32).toInt ≤ ((-1):Int)) (by decide : ((-1):Int) ≤ 2147483647)), (show ∀ (u : Nat) (D : s_D), gr 0 6 = .ref u → t_VL gr u → t_CV gi gl u D → t_Cb D → (1 ≤ ar1.toInt → ((-1) : Int32) = s_pt D ar1 (D 0).toNat) ∧ (ar1.toInt < 1 → ((-1) : Int) = -1) from (by
                                                            intro u D hu hl hc hb
                                                            exact ⟨fun h => absurd h (by have := (t_lt1q e1 h2); omega), fun _ => rfl⟩))⟩⟩
noncomputable def wl_e_parts : List (Nat × Nat) := [(69, 2)]
noncomputable def Q_e_parts (gi : Nat → Nat → Int32) (gl : Nat → Nat → Int64) (gr : Nat → Nat → Value) (ar1 : Int64) : Int32 → (Nat → Nat → Int32) → (Nat → Nat → Int64) → (Nat → Nat → Value) → Prop := fun (v : Int32) (gi2 : Nat → Nat → Int32) (gl2 : Nat → Nat → Int64) (gr2 : Nat → Nat → Value) => ∀ D : s_D, t_ME 0 gi D → t_Cb D → (1 ≤ ar1.toInt → v = s_pt D ar1 (D 0).toNat) ∧ (ar1.toInt < 1 → v.toInt = -1)
theorem c_e_parts {X : x_Ext} {d : Nat} {sh : List (Nat ⊕ (Nat × Nat))} {gi : Nat → Nat → Int32} {gl : Nat → Nat → Int64} {gr : Nat → Nat → Value} (hI : t_I sh gi gr) (ar1 : Int64) : x_Me X (d + 4) n_X12_parts [.ref 69, .long ar1] (sh, gi, gl, gr) (t_PI wl_e_parts sh gi gl gr (-2147483648) 2147483647 (Q_e_parts gi gl gr ar1)) := by
  have hX : t_X wl_e_parts sh gi gl gr gi gl gr := t_X.rf
  refine me_i f_X12_parts (hI.wf.s rfl) rfl rfl rfl ?_
  refine ev_loc f_X12_parts (nx := 1) rfl rfl rfl rfl ?_
  refine ev_lc f_X12_parts (nx := 2) (v := 1) rfl (by decide) rfl ?_
  refine ev_anyIE f_X12_parts (nx := 3) rfl rfl rfl rfl (fun z1 e1 => ?_)
  refine ev_if f_X12_parts (t1 := 12) (t2 := 6) rfl rfl rfl (fun h2 => ?_) (fun h2 => ?_)
  · have l3 : 0 ≤ z1.toInt := t_lel h2 (by decide : (0:Int) ≤ (0:Int32).toInt)
    refine ev_ic f_X12_parts (nx := 13) (v := 0) rfl (by decide) rfl ?_
    refine ev_loc f_X12_parts (nx := 14) (lo' := [(3, .int 0), (0, .ref 69), (1, .long ar1)]) rfl rfl rfl rfl ?_
    refine ev_ic f_X12_parts (nx := 15) (v := 0) rfl (by decide) rfl ?_
    refine ev_loc f_X12_parts (nx := 17) (lo' := [(4, .int 0), (3, .int 0), (0, .ref 69), (1, .long ar1)]) rfl rfl rfl rfl ?_
    have L4 : ∀ (m4 : Nat) (y4_4 : Int32) (y4_3 : Int32), 0 ≤ y4_4.toInt → y4_4.toInt ≤ 6 → (∀ D : s_D, t_ME 0 gi D → t_Cb D → y4_3 = s_pt D ar1 y4_4.toNatClampNeg ∧ y4_4.toInt ≤ D 0) → (6 - y4_4.toInt).toNat = m4 → x_Ev X (d + 4) n_X12_parts 17 [(4, .int y4_4), (3, .int y4_3), (0, .ref 69), (1, .long ar1)] [] (sh, gi, gl, gr) (t_PI wl_e_parts sh gi gl gr (-2147483648) 2147483647 (Q_e_parts gi gl gr ar1)) := by
      intro m4
      induction m4 using Nat.strongRecOn with
      | _ m4 ih4 =>
      intro y4_4 y4_3 l4_4 u4_4 j4_0 hm4
      refine ev_loc f_X12_parts (nx := 19) rfl rfl rfl rfl ?_
      refine ev_loc f_X12_parts (nx := 20) rfl rfl rfl rfl ?_
      refine ev_getR f_X12_parts (nx := 23) rfl (hI.wf.s rfl) rfl rfl (hI.wf.r rfl) rfl rfl ?_
      refine ev_ic f_X12_parts (nx := 24) (v := 0) rfl (by decide) rfl ?_
      obtain ⟨l5, u5⟩ := hI.ab (by decide +kernel : t_abr 70 0 0 0 6 = true) (Nat.le_refl _) (Nat.le_refl _)
      refine ev_ialdv f_X12_parts (nx := 25) (w := (gi 70 0)) rfl (hI.wf.s rfl) (by decide) (rfl : (0 : Int32).toNatClampNeg = 0) (by decide) rfl rfl ?_
      refine ev_if f_X12_parts (t1 := 62) (t2 := 28) rfl rfl rfl (fun h6 => ?_) (fun h6 => ?_)
      · have r7 : (gi 70 0).toInt ≤ y4_4.toInt := Int32.le_iff_toInt_le.mp h6
        refine ev_loc f_X12_parts (nx := 63) rfl rfl rfl rfl ?_
        refine ev_loc f_X12_parts (nx := 64) rfl rfl rfl rfl ?_
        refine ev_inV2 f_X12_parts (nx := 67) (lo2 := [(0, .ref 69), (1, .int y4_3)]) rfl rfl rfl rfl f_X12_gives (hI.wf.s rfl) rfl rfl rfl rfl rfl ?_
        refine ev_loc f_X12_gives (nx := 1) rfl rfl rfl rfl ?_
        refine ev_ic f_X12_gives (nx := 2) (v := 0) rfl (by decide) rfl ?_
        refine ev_putIT f_X12_gives (nx := 5) rfl (hI.wf.s rfl) rfl rfl rfl (hI.put0 (hI.wf.s rfl) rfl rfl) (hX.upI rfl) (fun g8 e8 hI hX => ?_)
        refine ev_loc f_X12_gives (nx := 6) rfl rfl rfl rfl ?_
        refine ev_retK1 f_X12_gives rfl rfl rfl ?_
        exact ev_ret f_X12_parts rfl rfl rfl ⟨_, _, _, rfl, hI, hX, ⟨_, rfl, (t_lo y4_3), (t_hi y4_3), (show ∀ D : s_D, t_ME 0 gi D → t_Cb D → (1 ≤ ar1.toInt → y4_3 = s_pt D ar1 (D 0).toNat) ∧ (ar1.toInt < 1 → y4_3.toInt = -1) from (by
                                                            intro D hm hb
                                                            obtain ⟨g1, g2⟩ := j4_0 D hm hb
                                                            have g0 : (gi 70 0).toInt = D 0 := hm.1.1.1
                                                            have ck := t_clamp (i := y4_4) (by omega)
                                                            refine ⟨fun _ => ?_, fun h => absurd h (by have := (t_lt1r e1 h2); omega)⟩
                                                            rw [show (D 0).toNat = y4_4.toNatClampNeg from (by omega)]; exact g1))⟩⟩
      · have r9 : y4_4.toInt < (gi 70 0).toInt := Int32.lt_iff_toInt_lt.mp (t_nle h6)
        have u10 : y4_4.toInt ≤ 5 := t_ltu (t_nle h6) u5 rfl
        have l11 : 1 ≤ (gi 70 0).toInt := t_ltl (t_nle h6) l4_4 rfl
        refine ev_loc f_X12_parts (nx := 29) rfl rfl rfl rfl ?_
        refine ev_loc f_X12_parts (nx := 30) rfl rfl rfl rfl ?_
        refine ev_loc f_X12_parts (nx := 32) rfl rfl rfl rfl ?_
        refine ev_qL0 f_X12_parts (nx := 35) (r := [.int y4_3]) rfl rfl rfl rfl rfl rfl rfl (c_n_heardOf hI (y4_4) l4_4 u10) rfl (fun w12 q12 => ?_)
        have q12 : (0 ≤ w12.toInt ∧ w12.toInt < 8589934592) ∧ ∀ D : s_D, t_ME 0 gi D → y4_4.toInt < D 0 → w12 = s_ec (s_so D y4_4.toNatClampNeg) (D 7) := q12
        refine ev_loc f_X12_parts (nx := 36) rfl rfl rfl rfl ?_
        refine ev_ldL f_X12_parts (nx := 39) (v := -1) rfl (by decide) rfl ?_
        refine ev_anyLE f_X12_parts (nx := 40) rfl rfl rfl rfl (fun z13 e13 => ?_)
        refine ev_anyLE f_X12_parts (nx := 41) rfl rfl rfl rfl (fun z14 e14 => ?_)
        refine ev_lc f_X12_parts (nx := 42) (v := 0) rfl (by decide) rfl ?_
        refine ev_anyIE f_X12_parts (nx := 43) rfl rfl rfl rfl (fun z15 e15 => ?_)
        refine ev_if f_X12_parts (t1 := 46) (t2 := 53) rfl rfl rfl (fun h16 => ?_) (fun h16 => ?_)
        · have u17 : z15.toInt ≤ 0 := t_equ h16 (by decide : (0:Int32).toInt ≤ (0:Int))
          have l18 : 0 ≤ z15.toInt := t_eql h16 (by decide : (0:Int) ≤ (0:Int32).toInt)
          refine ev_ic f_X12_parts (nx := 47) (v := 1) rfl (by decide) rfl ?_
          refine ev_loc f_X12_parts (nx := 49) rfl rfl rfl rfl ?_
          refine ev_anyIE f_X12_parts (nx := 50) rfl rfl rfl rfl (fun z19 e19 => ?_)
          refine ev_jmp f_X12_parts (nx := 54) rfl rfl rfl ?_
          refine ev_anyIE f_X12_parts (nx := 55) rfl rfl rfl rfl (fun z20 e20 => ?_)
          refine ev_loc f_X12_parts (nx := 56) (lo' := [(3, .int z20), (4, .int y4_4), (0, .ref 69), (1, .long ar1)]) rfl rfl rfl rfl ?_
          refine ev_incR f_X12_parts (nx := 59) (c := 1) (l := 1) (u := 6) rfl rfl (by decide) (by decide) l4_4 u10 rfl rfl (by decide) (by decide) rfl (fun z21 e21 l21 u21 => ?_)
          refine ev_jmp f_X12_parts (nx := 17) rfl rfl rfl ?_
          refine ev_sub (lo := [(4, .int z21), (3, .int z20), (0, .ref 69), (1, .long ar1)]) rfl (t_sc rfl (t_sc rfl (t_sc rfl (t_sc rfl t_sn)))) ?_
          exact ih4 _ (by omega) (z21) (z20) (Int.le_trans (by decide : (0:Int) ≤ 1) l21) u21 (by
                                                            intro D hm hb
                                                            obtain ⟨h1, h2⟩ := j4_0 D hm hb
                                                            have h0 : (gi 70 0).toInt = D 0 := hm.1.1.1
                                                            have hw := (q12.2 D hm (by omega)).trans ((s_hd_i (D := D) (p := y4_4.toInt) (by omega) (by omega)).trans (by rw [show y4_4.toInt.toNat = y4_4.toNatClampNeg from (by have := t_clamp (i := y4_4) (by omega); omega)])).symm
                                                            exact ⟨s_pt_s1 h1 (by omega) hw e13 e14 (t_lc0 e15 h16) e19 e20 (by omega), by omega⟩) rfl
        · have r22 : z15.toInt ≠ 0 := fun e => h16 (Int32.toInt_inj.mp (e.trans (by decide : (0:Int) = (0 : Int32).toInt)))
          refine ev_ic f_X12_parts (nx := 54) (v := 0) rfl (by decide) rfl ?_
          refine ev_anyIE f_X12_parts (nx := 55) rfl rfl rfl rfl (fun z23 e23 => ?_)
          refine ev_loc f_X12_parts (nx := 56) (lo' := [(3, .int z23), (4, .int y4_4), (0, .ref 69), (1, .long ar1)]) rfl rfl rfl rfl ?_
          refine ev_incR f_X12_parts (nx := 59) (c := 1) (l := 1) (u := 6) rfl rfl (by decide) (by decide) l4_4 u10 rfl rfl (by decide) (by decide) rfl (fun z24 e24 l24 u24 => ?_)
          refine ev_jmp f_X12_parts (nx := 17) rfl rfl rfl ?_
          refine ev_sub (lo := [(4, .int z24), (3, .int z23), (0, .ref 69), (1, .long ar1)]) rfl (t_sc rfl (t_sc rfl (t_sc rfl (t_sc rfl t_sn)))) ?_
          exact ih4 _ (by omega) (z24) (z23) (Int.le_trans (by decide : (0:Int) ≤ 1) l24) u24 (by
                                                            intro D hm hb
                                                            obtain ⟨h1, h2⟩ := j4_0 D hm hb
                                                            have h0 : (gi 70 0).toInt = D 0 := hm.1.1.1
                                                            have hw := (q12.2 D hm (by omega)).trans ((s_hd_i (D := D) (p := y4_4.toInt) (by omega) (by omega)).trans (by rw [show y4_4.toInt.toNat = y4_4.toNatClampNeg from (by have := t_clamp (i := y4_4) (by omega); omega)])).symm
                                                            rw [s_or0 e23]
                                                            exact ⟨s_pt_s0 h1 (by omega) hw e13 e14 (t_lc1 e15 h16) (by omega), by omega⟩) rfl
    refine ev_sub (lo := [(4, .int 0), (3, .int 0), (0, .ref 69), (1, .long ar1)]) rfl (t_sc rfl (t_sc rfl (t_sc rfl (t_sc rfl t_sn)))) ?_
    exact L4 _ (0) (0) (by decide : (0:Int) ≤ (0:Int32).toInt) (Int.le_trans (by decide : (0:Int32).toInt ≤ (0:Int)) (by decide : (0:Int) ≤ 6)) (fun D hm hb => ⟨rfl, by have z0 : (0 : Int32).toInt = 0 := rfl; have := hb.1.1; omega⟩) rfl
  · have u25 : z1.toInt ≤ (-1) := t_ltu (t_nle h2) (by decide : (0:Int32).toInt ≤ (0:Int)) rfl
    refine ev_loc f_X12_parts (nx := 7) rfl rfl rfl rfl ?_
    refine ev_ic f_X12_parts (nx := 8) (v := 1) rfl (by decide) rfl ?_
    refine ev_inV2 f_X12_parts (nx := 11) (lo2 := [(0, .ref 69), (1, .int 1)]) rfl rfl rfl rfl f_X12_refuse (hI.wf.s rfl) rfl rfl rfl rfl rfl ?_
    refine ev_loc f_X12_refuse (nx := 1) rfl rfl rfl rfl ?_
    refine ev_loc f_X12_refuse (nx := 2) rfl rfl rfl rfl ?_
    refine ev_putIT f_X12_refuse (nx := 5) rfl (hI.wf.s rfl) rfl rfl rfl (hI.put0 (hI.wf.s rfl) rfl rfl) (hX.upI rfl) (fun g26 e26 hI hX => ?_)
    refine ev_ic f_X12_refuse (nx := 6) (v := -1) rfl (by decide) rfl ?_
    refine ev_retK1 f_X12_refuse rfl rfl rfl ?_
    exact ev_ret f_X12_parts rfl rfl rfl ⟨_, _, _, rfl, hI, hX, ⟨_, rfl, (Int.le_trans (by decide : ((-2147483648):Int) ≤ (-1)) (by decide : ((-1):Int) ≤ ((-1):Int32).toInt)), (Int.le_trans (by decide : ((-1):Int32).toInt ≤ ((-1):Int)) (by decide : ((-1):Int) ≤ 2147483647)), (show ∀ D : s_D, t_ME 0 gi D → t_Cb D → (1 ≤ ar1.toInt → ((-1) : Int32) = s_pt D ar1 (D 0).toNat) ∧ (ar1.toInt < 1 → ((-1) : Int) = -1) from (by
                                                            intro D hm hb
                                                            exact ⟨fun h => absurd h (by have := (t_lt1q e1 h2); omega), fun _ => rfl⟩))⟩⟩
