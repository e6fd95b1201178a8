/-! ===== printed by riv.py: the other side: how many READINGS ===== -/
noncomputable def wl_n_findsReadings : List (Nat × Nat) := [(69, 29), (78, 9999), (79, 9999), (80, 9999)]
noncomputable def Q_n_findsReadings (gi : Nat → Nat → Int32) (gl : Nat → Nat → Int64) (gr : Nat → Nat → Value) (ar1 : Int64) : (Nat → Nat → Int32) → (Nat → Nat → Int64) → (Nat → Nat → Value) → Prop := fun (gi2 : Nat → Nat → Int32) (gl2 : Nat → Nat → Int64) (gr2 : Nat → Nat → Value) => (gi2 69 29).toInt ≤ 474 ∧ (∀ j, gi2 70 j = gi 70 j) ∧ (∀ D : s_D, t_ME 0 gi D → t_Cb D → (gi2 69 29).toInt = s_ct D ar1 (-1))
theorem c_n_findsReadings {X : x_Ext} {d : Nat} {sh : List (Nat ⊕ (Nat × Nat))} {gi : Nat → Nat → Int32} {gl : Nat → Nat → Int64} {gr : Nat → Nat → Value} (hI : t_I sh gi gr) (ar1 : Int64) : x_Me X (d + 4) n_X12_findsReadings [.ref 69, .long ar1] (sh, gi, gl, gr) (t_PN wl_n_findsReadings sh gi gl gr (Q_n_findsReadings gi gl gr ar1)) := by
  have hX : t_X wl_n_findsReadings sh gi gl gr gi gl gr := t_X.rf
  refine me_i f_X12_findsReadings (hI.wf.s rfl) rfl rfl rfl ?_
  obtain ⟨l1, u1⟩ := hI.b (hI.wf.s (k := 69) rfl) (t_bdK rfl : t_bd 11 29 = some (0, 500))
  refine ev_loc f_X12_findsReadings (nx := 1) rfl rfl rfl rfl ?_
  refine ev_ic f_X12_findsReadings (nx := 2) (v := 0) rfl (by decide) rfl ?_
  refine ev_putIT f_X12_findsReadings (nx := 5) rfl (hI.wf.s rfl) rfl rfl rfl (hI.putB (hI.wf.s rfl) rfl rfl (by decide : (0:Int) ≤ (0:Int32).toInt) (by decide) (by decide : (0:Int32).toInt ≤ (0:Int)) (by decide)) (hX.upI rfl) (fun g2 e2 hI hX => ?_)
  refine ev_loc f_X12_findsReadings (nx := 6) rfl rfl rfl rfl ?_
  refine ev_getR f_X12_findsReadings (nx := 9) rfl (hI.wf.s rfl) rfl rfl (hI.wf.r rfl) rfl rfl ?_
  refine ev_ic f_X12_findsReadings (nx := 10) (v := 0) rfl (by decide) rfl ?_
  obtain ⟨l3, u3⟩ := hI.ab (by decide +kernel : t_abr 70 0 0 0 6 = true) (Nat.le_refl _) (Nat.le_refl _)
  refine ev_ialdv f_X12_findsReadings (nx := 11) (w := (g2 70 0)) rfl (hI.wf.s rfl) (by decide) (rfl : (0 : Int32).toNatClampNeg = 0) (by decide) rfl rfl ?_
  refine ev_loc f_X12_findsReadings (nx := 12) (lo' := [(3, .int (g2 70 0)), (0, .ref 69), (1, .long ar1)]) rfl rfl rfl rfl ?_
  refine ev_ic f_X12_findsReadings (nx := 13) (v := 0) rfl (by decide) rfl ?_
  refine ev_loc f_X12_findsReadings (nx := 15) (lo' := [(4, .int 0), (3, .int (g2 70 0)), (0, .ref 69), (1, .long ar1)]) rfl rfl rfl rfl ?_
  have L4 : ∀ (m4 : Nat) (gi4 : Nat → Nat → Int32) (gl4 : Nat → Nat → Int64) (gr4 : Nat → Nat → Value) (y4_4 : Int32), t_I sh gi4 gr4 → t_X wl_n_findsReadings sh gi gl gr gi4 gl4 gr4 → 0 ≤ y4_4.toInt → y4_4.toInt ≤ 6 → gi4 70 0 = (g2 70 0) → (gi4 69 29).toInt ≤ y4_4.toInt → (∀ j, gi4 70 j = gi 70 j) → (∀ D : s_D, t_ME 0 gi D → t_Cb D → (gi4 69 29).toInt = s_m1 D ar1 y4_4.toNatClampNeg ∧ y4_4.toInt ≤ D 0 ∧ (g2 70 0).toInt = D 0) → (6 - y4_4.toInt).toNat = m4 → x_Ev X (d + 4) n_X12_findsReadings 15 [(4, .int y4_4), (3, .int (g2 70 0)), (0, .ref 69), (1, .long ar1)] [] (sh, gi4, gl4, gr4) (t_PN wl_n_findsReadings sh gi gl gr (Q_n_findsReadings gi gl gr ar1)) := by
    intro m4
    induction m4 using Nat.strongRecOn with
    | _ m4 ih4 =>
    intro gi4 gl4 gr4 y4_4 hI hX l4_4 u4_4 c4_0 j4_0 j4_1 j4_2 hm4
    obtain ⟨l5, u5⟩ := hI.b (hI.wf.s (k := 69) rfl) (t_bdK rfl : t_bd 11 29 = some (0, 500))
    refine ev_loc f_X12_findsReadings (nx := 17) rfl rfl rfl rfl ?_
    refine ev_loc f_X12_findsReadings (nx := 18) rfl rfl rfl rfl ?_
    refine ev_if f_X12_findsReadings (t1 := 46) (t2 := 21) rfl rfl rfl (fun h6 => ?_) (fun h6 => ?_)
    · have r7 : (g2 70 0).toInt ≤ y4_4.toInt := Int32.le_iff_toInt_le.mp h6
      refine ev_ic f_X12_findsReadings (nx := 47) (v := 0) rfl (by decide) rfl ?_
      refine ev_loc f_X12_findsReadings (nx := 49) (lo' := [(4, .int 0), (3, .int (g2 70 0)), (0, .ref 69), (1, .long ar1)]) rfl rfl rfl rfl ?_
      have L8 : ∀ (m8 : Nat) (gi8 : Nat → Nat → Int32) (gl8 : Nat → Nat → Int64) (gr8 : Nat → Nat → Value) (y8_4 : Int32), t_I sh gi8 gr8 → t_X wl_n_findsReadings sh gi gl gr gi8 gl8 gr8 → 0 ≤ y8_4.toInt → y8_4.toInt ≤ 6 → gi8 70 0 = (g2 70 0) → (gi8 69 29).toInt ≤ 6 + 78 * y8_4.toInt → (∀ j, gi8 70 j = gi 70 j) → (∀ D : s_D, t_ME 0 gi D → t_Cb D → (gi8 69 29).toInt = s_m1 D ar1 (D 0).toNat + s_m2 D ar1 (D 0).toNat y8_4.toNatClampNeg ∧ y8_4.toInt ≤ D 0 ∧ (g2 70 0).toInt = D 0) → (6 - y8_4.toInt).toNat = m8 → x_Ev X (d + 4) n_X12_findsReadings 49 [(4, .int y8_4), (3, .int (g2 70 0)), (0, .ref 69), (1, .long ar1)] [] (sh, gi8, gl8, gr8) (t_PN wl_n_findsReadings sh gi gl gr (Q_n_findsReadings gi gl gr ar1)) := by
        intro m8
        induction m8 using Nat.strongRecOn with
        | _ m8 ih8 =>
        intro gi8 gl8 gr8 y8_4 hI hX l8_4 u8_4 c8_0 j8_0 j8_1 j8_2 hm8
        obtain ⟨l9, u9⟩ := hI.b (hI.wf.s (k := 69) rfl) (t_bdK rfl : t_bd 11 29 = some (0, 500))
        refine ev_loc f_X12_findsReadings (nx := 51) rfl rfl rfl rfl ?_
        refine ev_loc f_X12_findsReadings (nx := 52) rfl rfl rfl rfl ?_
        refine ev_if f_X12_findsReadings (t1 := 134) (t2 := 55) rfl rfl rfl (fun h10 => ?_) (fun h10 => ?_)
        · have r11 : (g2 70 0).toInt ≤ y8_4.toInt := Int32.le_iff_toInt_le.mp h10
          exact ev_ret f_X12_findsReadings rfl rfl rfl ⟨_, _, _, rfl, hI, hX, ⟨rfl, (show (gi8 69 29).toInt ≤ 474 ∧ (∀ j, gi8 70 j = gi 70 j) ∧ (∀ D : s_D, t_ME 0 gi D → t_Cb D → (gi8 69 29).toInt = s_ct D ar1 (-1)) from ⟨(by omega), j8_1, (by
                                                            intro D hm hb
                                                            have z0 : (0 : Int32).toInt = 0 := rfl
                                                            have z1 : (1 : Int32).toInt = 1 := rfl
                                                            obtain ⟨g1, g2, hn⟩ := j8_2 D hm hb
                                                            have b0 := hb.1.1
                                                            exact (show _ from s_m2_e g1 (by omega) (by omega) rfl))⟩)⟩⟩
        · have r12 : y8_4.toInt < (g2 70 0).toInt := Int32.lt_iff_toInt_lt.mp (t_nle h10)
          have u13 : y8_4.toInt ≤ 5 := t_ltu (t_nle h10) u3 rfl
          have l14 : 1 ≤ (g2 70 0).toInt := t_ltl (t_nle h10) l8_4 rfl
          refine ev_ic f_X12_findsReadings (nx := 56) (v := 0) rfl (by decide) rfl ?_
          refine ev_loc f_X12_findsReadings (nx := 58) (lo' := [(5, .int 0), (4, .int y8_4), (3, .int (g2 70 0)), (0, .ref 69), (1, .long ar1)]) rfl rfl rfl rfl ?_
          have L15 : ∀ (m15 : Nat) (gi15 : Nat → Nat → Int32) (gl15 : Nat → Nat → Int64) (gr15 : Nat → Nat → Value) (y15_5 : Int32), t_I sh gi15 gr15 → t_X wl_n_findsReadings sh gi gl gr gi15 gl15 gr15 → 0 ≤ y15_5.toInt → y15_5.toInt ≤ 6 → gi15 70 0 = (g2 70 0) → (gi15 69 29).toInt ≤ 6 + 78 * y8_4.toInt + 13 * y15_5.toInt → (∀ j, gi15 70 j = gi 70 j) → (∀ D : s_D, t_ME 0 gi D → t_Cb D → (gi15 69 29).toInt = s_m1 D ar1 (D 0).toNat + s_m2 D ar1 (D 0).toNat y8_4.toNatClampNeg + s_cc D ar1 (-1) y8_4.toNatClampNeg y15_5.toNatClampNeg ∧ y8_4.toInt < D 0 ∧ y15_5.toInt ≤ D 0 ∧ (g2 70 0).toInt = D 0) → (6 - y15_5.toInt).toNat = m15 → x_Ev X (d + 4) n_X12_findsReadings 58 [(5, .int y15_5), (4, .int y8_4), (3, .int (g2 70 0)), (0, .ref 69), (1, .long ar1)] [] (sh, gi15, gl15, gr15) (t_PN wl_n_findsReadings sh gi gl gr (Q_n_findsReadings gi gl gr ar1)) := by
            intro m15
            induction m15 using Nat.strongRecOn with
            | _ m15 ih15 =>
            intro gi15 gl15 gr15 y15_5 hI hX l15_5 u15_5 c15_0 j15_0 j15_1 j15_2 hm15
            obtain ⟨l16, u16⟩ := hI.b (hI.wf.s (k := 69) rfl) (t_bdK rfl : t_bd 11 29 = some (0, 500))
            refine ev_loc f_X12_findsReadings (nx := 60) rfl rfl rfl rfl ?_
            refine ev_loc f_X12_findsReadings (nx := 61) rfl rfl rfl rfl ?_
            refine ev_if f_X12_findsReadings (t1 := 128) (t2 := 64) rfl rfl rfl (fun h17 => ?_) (fun h17 => ?_)
            · have r18 : (g2 70 0).toInt ≤ y15_5.toInt := Int32.le_iff_toInt_le.mp h17
              have l19 : 1 ≤ y15_5.toInt := t_lel h17 l14
              refine ev_incR f_X12_findsReadings (nx := 131) (c := 1) (l := 1) (u := 6) rfl rfl (by decide) (by decide) l8_4 u13 rfl rfl (by decide) (by decide) rfl (fun z20 e20 l20 u20 => ?_)
              refine ev_jmp f_X12_findsReadings (nx := 49) rfl rfl rfl ?_
              refine ev_sub (lo := [(4, .int z20), (3, .int (g2 70 0)), (0, .ref 69), (1, .long ar1)]) rfl (t_sc rfl (t_sc rfl (t_sc rfl (t_sc rfl t_sn)))) ?_
              exact ih8 _ (by omega) gi15 gl15 gr15 (z20) hI hX  (Int.le_trans (by decide : (0:Int) ≤ 1) l20) u20 c15_0 (by omega) j15_1 (by
                                                            intro D hm hb
                                                            have z0 : (0 : Int32).toInt = 0 := rfl
                                                            have z1 : (1 : Int32).toInt = 1 := rfl
                                                            obtain ⟨g1, g2, g3, hn⟩ := j15_2 D hm hb
                                                            exact ⟨s_m2_s g1 (by omega) (by omega) (by omega) (by omega) (by omega), by omega, hn⟩) rfl
            · have r21 : y15_5.toInt < (g2 70 0).toInt := Int32.lt_iff_toInt_lt.mp (t_nle h17)
              have u22 : y15_5.toInt ≤ 5 := t_ltu (t_nle h17) u3 rfl
              refine ev_loc f_X12_findsReadings (nx := 66) rfl rfl rfl rfl ?_
              refine ev_loc f_X12_findsReadings (nx := 68) rfl rfl rfl rfl ?_
              refine ev_if f_X12_findsReadings (t1 := 75) (t2 := 71) rfl rfl rfl (fun h23 => ?_) (fun h23 => ?_)
              · have r24 : y8_4.toInt ≤ y15_5.toInt := Int32.le_iff_toInt_le.mp h23
                refine ev_ic f_X12_findsReadings (nx := 76) (v := 0) rfl (by decide) rfl ?_
                refine ev_loc f_X12_findsReadings (nx := 78) (lo' := [(6, .int 0), (5, .int y15_5), (4, .int y8_4), (3, .int (g2 70 0)), (0, .ref 69), (1, .long ar1)]) rfl rfl rfl rfl ?_
                have L25 : ∀ (m25 : Nat) (gi25 : Nat → Nat → Int32) (gl25 : Nat → Nat → Int64) (gr25 : Nat → Nat → Value) (y25_6 : Int32), t_I sh gi25 gr25 → t_X wl_n_findsReadings sh gi gl gr gi25 gl25 gr25 → 0 ≤ y25_6.toInt → y25_6.toInt ≤ 13 → gi25 70 0 = (g2 70 0) → (gi25 69 29).toInt ≤ 6 + 78 * y8_4.toInt + 13 * y15_5.toInt + y25_6.toInt → (∀ j, gi25 70 j = gi 70 j) → (∀ D : s_D, t_ME 0 gi D → t_Cb D → s_m1 D ar1 (D 0).toNat + s_m2 D ar1 (D 0).toNat y8_4.toNatClampNeg + s_cc D ar1 (-1) y8_4.toNatClampNeg y15_5.toNatClampNeg + s_cB D ar1 y8_4.toInt y15_5.toInt = (gi25 69 29).toInt + s_cb D ar1 y8_4.toInt y15_5.toInt (13 - y25_6.toInt).toNat y25_6.toInt ∧ y8_4.toInt < D 0 ∧ y15_5.toInt < D 0 ∧ (g2 70 0).toInt = D 0) → (13 - y25_6.toInt).toNat = m25 → x_Ev X (d + 4) n_X12_findsReadings 78 [(6, .int y25_6), (5, .int y15_5), (4, .int y8_4), (3, .int (g2 70 0)), (0, .ref 69), (1, .long ar1)] [] (sh, gi25, gl25, gr25) (t_PN wl_n_findsReadings sh gi gl gr (Q_n_findsReadings gi gl gr ar1)) := by
                  intro m25
                  induction m25 using Nat.strongRecOn with
                  | _ m25 ih25 =>
                  intro gi25 gl25 gr25 y25_6 hI hX l25_6 u25_6 c25_0 j25_0 j25_1 j25_2 hm25
                  obtain ⟨l26, u26⟩ := hI.b (hI.wf.s (k := 69) rfl) (t_bdK rfl : t_bd 11 29 = some (0, 500))
                  refine ev_loc f_X12_findsReadings (nx := 80) rfl rfl rfl rfl ?_
                  refine ev_bp f_X12_findsReadings (nx := 82) (v := 12) rfl (by decide) rfl ?_
                  refine ev_if f_X12_findsReadings (t1 := 122) (t2 := 85) rfl rfl rfl (fun h27 => ?_) (fun h27 => ?_)
                  · have l28 : 13 ≤ y25_6.toInt := t_ltl h27 (by decide : (12:Int) ≤ (12:Int32).toInt) rfl
                    refine ev_incR f_X12_findsReadings (nx := 125) (c := 1) (l := 1) (u := 6) rfl rfl (by decide) (by decide) l15_5 u22 rfl rfl (by decide) (by decide) rfl (fun z29 e29 l29 u29 => ?_)
                    refine ev_jmp f_X12_findsReadings (nx := 58) rfl rfl rfl ?_
                    refine ev_sub (lo := [(5, .int z29), (4, .int y8_4), (3, .int (g2 70 0)), (0, .ref 69), (1, .long ar1)]) rfl (t_sc rfl (t_sc rfl (t_sc rfl (t_sc rfl (t_sc rfl t_sn))))) ?_
                    exact ih15 _ (by omega) gi25 gl25 gr25 (z29) hI hX  (Int.le_trans (by decide : (0:Int) ≤ 1) l29) u29 c25_0 (by omega) j25_1 (by
                                                            intro D hm hb
                                                            have z0 : (0 : Int32).toInt = 0 := rfl
                                                            have z1 : (1 : Int32).toInt = 1 := rfl
                                                            obtain ⟨g1, g2, g3, hn⟩ := j25_2 D hm hb
                                                            exact ⟨s_m3_s g1 (by omega) (by omega) (by omega) (by omega) (by omega), by omega, by omega, hn⟩) rfl
                  · have u30 : y25_6.toInt ≤ 12 := t_leu (t_nlt h27) (by decide : (12:Int32).toInt ≤ (12:Int))
                    refine ev_loc f_X12_findsReadings (nx := 86) rfl rfl rfl rfl ?_
                    refine ev_loc f_X12_findsReadings (nx := 88) rfl rfl rfl rfl ?_
                    refine ev_qL0 f_X12_findsReadings (nx := 91) (r := []) rfl rfl rfl rfl rfl rfl rfl (c_n_heardOf hI (y8_4) l8_4 u13) rfl (fun w31 q31 => ?_)
                    have q31 : (0 ≤ w31.toInt ∧ w31.toInt < 8589934592) ∧ ∀ D : s_D, t_ME 0 gi25 D → y8_4.toInt < D 0 → w31 = s_ec (s_so D y8_4.toNatClampNeg) (D 7) := q31
                    refine ev_loc f_X12_findsReadings (nx := 92) rfl rfl rfl rfl ?_
                    refine ev_loc f_X12_findsReadings (nx := 94) rfl rfl rfl rfl ?_
                    refine ev_qL0 f_X12_findsReadings (nx := 97) (r := [.long w31]) rfl rfl rfl rfl rfl rfl rfl (c_n_heardOf hI (y15_5) l15_5 u22) rfl (fun w32 q32 => ?_)
                    have q32 : (0 ≤ w32.toInt ∧ w32.toInt < 8589934592) ∧ ∀ D : s_D, t_ME 0 gi25 D → y15_5.toInt < D 0 → w32 = s_ec (s_so D y15_5.toNatClampNeg) (D 7) := q32
                    refine ev_loc f_X12_findsReadings (nx := 99) rfl rfl rfl rfl ?_
                    refine ev_anyLE f_X12_findsReadings (nx := 100) rfl rfl rfl rfl (fun z33 e33 => ?_)
                    refine ev_anyLE f_X12_findsReadings (nx := 101) rfl rfl rfl rfl (fun z34 e34 => ?_)
                    refine ev_loc f_X12_findsReadings (nx := 102) rfl rfl rfl rfl ?_
                    refine ev_anyIE f_X12_findsReadings (nx := 103) rfl rfl rfl rfl (fun z35 e35 => ?_)
                    refine ev_if f_X12_findsReadings (t1 := 106) (t2 := 116) rfl rfl rfl (fun h36 => ?_) (fun h36 => ?_)
                    · have u37 : z35.toInt ≤ 0 := t_equ h36 (by decide : (0:Int32).toInt ≤ (0:Int))
                      have l38 : 0 ≤ z35.toInt := t_eql h36 (by decide : (0:Int) ≤ (0:Int32).toInt)
                      refine ev_loc f_X12_findsReadings (nx := 107) rfl rfl rfl rfl ?_
                      refine ev_loc f_X12_findsReadings (nx := 109) rfl rfl rfl rfl ?_
                      refine ev_loc f_X12_findsReadings (nx := 111) rfl rfl rfl rfl ?_
                      refine ev_loc f_X12_findsReadings (nx := 113) rfl rfl rfl rfl ?_
                      refine ev_inV4 f_X12_findsReadings (nx := 116) (lo2 := [(0, .ref 69), (1, .int y8_4), (2, .int y15_5), (3, .int y25_6)]) rfl rfl rfl rfl f_X12_reads (hI.wf.s rfl) rfl rfl rfl rfl rfl ?_
                      refine ev_loc f_X12_reads (nx := 1) rfl rfl rfl rfl ?_
                      refine ev_getR f_X12_reads (nx := 4) rfl (hI.wf.s rfl) rfl rfl (hI.wf.r rfl) rfl rfl ?_
                      refine ev_loc f_X12_reads (nx := 5) rfl rfl rfl rfl ?_
                      refine ev_gvI f_X12_reads (nx := 8) (w := (gi25 69 29)) rfl (hI.wf.s rfl) rfl rfl rfl rfl ?_
                      refine ev_loc f_X12_reads (nx := 9) rfl rfl rfl rfl ?_
                      have u40 : (gi25 69 29).toInt ≤ (499:Int) := (by omega)
                      refine ev_iastT f_X12_reads (nx := 10) rfl (hI.wf.s rfl) l26 (by decide) u40 (by decide) rfl (hI.astG (hI.wf.s rfl) (fun lo hi e => absurd e (t_nob (by decide +kernel) _)) (fun k hk e => by have := hk.2.1; omega)) (hX.upI (t_inA_ok rfl)) (fun g39 e39 hI hX => ?_)
                      refine ev_loc f_X12_reads (nx := 11) rfl rfl rfl rfl ?_
                      refine ev_getR f_X12_reads (nx := 14) rfl (hI.wf.s rfl) rfl rfl (hI.wf.r rfl) rfl rfl ?_
                      refine ev_loc f_X12_reads (nx := 15) rfl rfl rfl rfl ?_
                      refine ev_gvI f_X12_reads (nx := 18) (w := (gi25 69 29)) rfl (hI.wf.s rfl) rfl rfl ((by rw [e39]; exact x_up2_off (Or.inl (by decide)) : g39 69 29 = gi25 69 29).trans rfl) rfl ?_
                      refine ev_loc f_X12_reads (nx := 19) rfl rfl rfl rfl ?_
                      refine ev_iastT f_X12_reads (nx := 20) rfl (hI.wf.s rfl) l26 (by decide) u40 (by decide) rfl (hI.astG (hI.wf.s rfl) (fun lo hi e => absurd e (t_nob (by decide +kernel) _)) (fun k hk e => by have := hk.2.1; omega)) (hX.upI (t_inA_ok rfl)) (fun g41 e41 hI hX => ?_)
                      refine ev_loc f_X12_reads (nx := 21) rfl rfl rfl rfl ?_
                      refine ev_getR f_X12_reads (nx := 24) rfl (hI.wf.s rfl) rfl rfl (hI.wf.r rfl) rfl rfl ?_
                      refine ev_loc f_X12_reads (nx := 25) rfl rfl rfl rfl ?_
                      refine ev_gvI f_X12_reads (nx := 28) (w := (gi25 69 29)) rfl (hI.wf.s rfl) rfl rfl ((by rw [e41]; exact x_up2_off (Or.inl (by decide)) : g41 69 29 = g39 69 29).trans ((by rw [e39]; exact x_up2_off (Or.inl (by decide)) : g39 69 29 = gi25 69 29).trans rfl)) rfl ?_
                      refine ev_loc f_X12_reads (nx := 29) rfl rfl rfl rfl ?_
                      refine ev_iastT f_X12_reads (nx := 30) rfl (hI.wf.s rfl) l26 (by decide) u40 (by decide) rfl (hI.astG (hI.wf.s rfl) (fun lo hi e => absurd e (t_nob (by decide +kernel) _)) (fun k hk e => by have := hk.2.1; omega)) (hX.upI (t_inA_ok rfl)) (fun g42 e42 hI hX => ?_)
                      refine ev_loc f_X12_reads (nx := 31) rfl rfl rfl rfl ?_
                      refine ev_alu f_X12_reads (nx := 32) rfl rfl rfl rfl ?_
                      refine ev_gvI f_X12_reads (nx := 35) (w := (gi25 69 29)) rfl (hI.wf.s rfl) rfl rfl ((by rw [e42]; exact x_up2_off (Or.inl (by decide)) : g42 69 29 = g41 69 29).trans ((by rw [e41]; exact x_up2_off (Or.inl (by decide)) : g41 69 29 = g39 69 29).trans ((by rw [e39]; exact x_up2_off (Or.inl (by decide)) : g39 69 29 = gi25 69 29).trans rfl))) rfl ?_
                      refine ev_ic f_X12_reads (nx := 36) (v := 1) rfl (by decide) rfl ?_
                      refine ev_addC f_X12_reads (nx := 37) (c := 1) (l := 1) (u := 500) rfl (by decide) l26 u40 rfl rfl (by decide) (by decide) rfl (fun z43 e43 l43 u43 => ?_)
                      refine ev_putIT f_X12_reads (nx := 40) rfl (hI.wf.s rfl) rfl rfl rfl (hI.putB (hI.wf.s rfl) rfl rfl l43 (by decide) u43 (by decide)) (hX.upI rfl) (fun g44 e44 hI hX => ?_)
                      refine ev_retK0 f_X12_reads rfl rfl rfl ?_
                      refine ev_incR f_X12_findsReadings (nx := 119) (c := 1) (l := 1) (u := 13) rfl rfl (by decide) (by decide) l25_6 u30 rfl rfl (by decide) (by decide) rfl (fun z45 e45 l45 u45 => ?_)
                      refine ev_jmp f_X12_findsReadings (nx := 78) rfl rfl rfl ?_
                      refine ev_sub (lo := [(6, .int z45), (5, .int y15_5), (4, .int y8_4), (3, .int (g2 70 0)), (0, .ref 69), (1, .long ar1)]) rfl (t_sc rfl (t_sc rfl (t_sc rfl (t_sc rfl (t_sc rfl (t_sc rfl t_sn)))))) ?_
                      exact ih25 _ (by omega) g44 gl25 gr25 (z45) hI hX  (Int.le_trans (by decide : (0:Int) ≤ 1) l45) u45 ((by rw [e44]; exact x_up2_off (Or.inr (by decide)) : g44 70 0 = g42 70 0).trans ((by rw [e42]; exact x_up2_off (Or.inl (by decide)) : g42 70 0 = g41 70 0).trans ((by rw [e41]; exact x_up2_off (Or.inl (by decide)) : g41 70 0 = g39 70 0).trans ((by rw [e39]; exact x_up2_off (Or.inl (by decide)) : g39 70 0 = gi25 70 0).trans c25_0)))) (by have ff46 : (g44 69 29).toInt = z43.toInt := congrArg Int32.toInt (by rw [e44]; exact x_up2_at _ _ _ _ : g44 69 29 = z43); omega) (fun j => (congrFun ((by rw [e44]; exact x_up2_ne (by decide) : g44 70 = g42 70).trans ((by rw [e42]; exact x_up2_ne (by decide) : g42 70 = g41 70).trans ((by rw [e41]; exact x_up2_ne (by decide) : g41 70 = g39 70).trans ((by rw [e39]; exact x_up2_ne (by decide) : g39 70 = gi25 70))))) j).trans (j25_1 j)) (by
                                                            intro D hm hb
                                                            have z0 : (0 : Int32).toInt = 0 := rfl
                                                            have z1 : (1 : Int32).toInt = 1 := rfl
                                                            have ff47 : (g44 69 29).toInt = z43.toInt := congrArg Int32.toInt (by rw [e44]; exact x_up2_at _ _ _ _ : g44 69 29 = z43)
                                                            obtain ⟨g1, g2, g3, hn⟩ := j25_2 D hm hb
                                                            have hmN : t_ME 0 gi25 D := hm.mv hb (fun j _ _ _ => j25_1 (0 + j))
                                                            have hw31 : w31 = s_hd D y8_4.toInt := (q31.2 D hmN (by omega)).trans ((s_hd_i (D := D) (p := y8_4.toInt) (by omega) (by omega)).trans (by rw [show y8_4.toInt.toNat = y8_4.toNatClampNeg from (by have := t_clamp (i := y8_4) (by omega); omega)])).symm
                                                            have hw32 : w32 = s_hd D y15_5.toInt := (q32.2 D hmN (by omega)).trans ((s_hd_i (D := D) (p := y15_5.toInt) (by omega) (by omega)).trans (by rw [show y15_5.toInt.toNat = y15_5.toNatClampNeg from (by have := t_clamp (i := y15_5) (by omega); omega)])).symm
                                                            have hv := s_bw_e hw31 hw32 e33 e34
                                                            have hne := (t_le0 e35 h36)
                                                            rw [hv] at hne
                                                            exact ⟨s_m4_y g1 (by omega) hne (by omega) (by omega), by omega, by omega, hn⟩) rfl
                    · have r48 : z35.toInt ≠ 0 := fun e => h36 (Int32.toInt_inj.mp (e.trans (by decide : (0:Int) = (0 : Int32).toInt)))
                      refine ev_incR f_X12_findsReadings (nx := 119) (c := 1) (l := 1) (u := 13) rfl rfl (by decide) (by decide) l25_6 u30 rfl rfl (by decide) (by decide) rfl (fun z49 e49 l49 u49 => ?_)
                      refine ev_jmp f_X12_findsReadings (nx := 78) rfl rfl rfl ?_
                      refine ev_sub (lo := [(6, .int z49), (5, .int y15_5), (4, .int y8_4), (3, .int (g2 70 0)), (0, .ref 69), (1, .long ar1)]) rfl (t_sc rfl (t_sc rfl (t_sc rfl (t_sc rfl (t_sc rfl (t_sc rfl t_sn)))))) ?_
                      exact ih25 _ (by omega) gi25 gl25 gr25 (z49) hI hX  (Int.le_trans (by decide : (0:Int) ≤ 1) l49) u49 c25_0 (by omega) j25_1 (by
                                                            intro D hm hb
                                                            have z0 : (0 : Int32).toInt = 0 := rfl
                                                            have z1 : (1 : Int32).toInt = 1 := rfl
                                                            obtain ⟨g1, g2, g3, hn⟩ := j25_2 D hm hb
                                                            have hmN : t_ME 0 gi25 D := hm.mv hb (fun j _ _ _ => j25_1 (0 + j))
                                                            have hw31 : w31 = s_hd D y8_4.toInt := (q31.2 D hmN (by omega)).trans ((s_hd_i (D := D) (p := y8_4.toInt) (by omega) (by omega)).trans (by rw [show y8_4.toInt.toNat = y8_4.toNatClampNeg from (by have := t_clamp (i := y8_4) (by omega); omega)])).symm
                                                            have hw32 : w32 = s_hd D y15_5.toInt := (q32.2 D hmN (by omega)).trans ((s_hd_i (D := D) (p := y15_5.toInt) (by omega) (by omega)).trans (by rw [show y15_5.toInt.toNat = y15_5.toNatClampNeg from (by have := t_clamp (i := y15_5) (by omega); omega)])).symm
                                                            have hv := s_bw_e hw31 hw32 e33 e34
                                                            have hne := (t_le1 e35 h36)
                                                            rw [hv] at hne
                                                            exact ⟨s_m4_n g1 (by omega) hne (by omega) (by omega), by omega, by omega, hn⟩) rfl
                refine ev_sub (lo := [(6, .int 0), (5, .int y15_5), (4, .int y8_4), (3, .int (g2 70 0)), (0, .ref 69), (1, .long ar1)]) rfl (t_sc rfl (t_sc rfl (t_sc rfl (t_sc rfl (t_sc rfl (t_sc rfl t_sn)))))) ?_
                exact L25 _ gi15 gl15 gr15 (0) hI hX  (by decide : (0:Int) ≤ (0:Int32).toInt) (Int.le_trans (by decide : (0:Int32).toInt ≤ (0:Int)) (by decide : (0:Int) ≤ 13)) c15_0 (by have kf50 : (0 : Int32).toInt = 0 := (by decide); omega) j15_1 (by
                                                            intro D hm hb
                                                            have z0 : (0 : Int32).toInt = 0 := rfl
                                                            have z1 : (1 : Int32).toInt = 1 := rfl
                                                            obtain ⟨g1, g2, g3, hn⟩ := j15_2 D hm hb
                                                            have hl2 : s_lb y8_4.toInt y15_5.toInt = (0 : Int32).toInt := s_lb_0 (by omega)
                                                            exact ⟨s_m4_b g1 (by omega) hl2.symm, by omega, by omega, hn⟩) rfl
              · have r51 : y15_5.toInt < y8_4.toInt := Int32.lt_iff_toInt_lt.mp (t_nle h23)
                have u52 : y15_5.toInt ≤ 4 := t_ltu (t_nle h23) u13 rfl
                have l53 : 1 ≤ y8_4.toInt := t_ltl (t_nle h23) l15_5 rfl
                refine ev_ic f_X12_findsReadings (nx := 72) (v := 1) rfl (by decide) rfl ?_
                refine ev_jmp f_X12_findsReadings (nx := 76) rfl rfl rfl ?_
                refine ev_loc f_X12_findsReadings (nx := 78) (lo' := [(6, .int 1), (5, .int y15_5), (4, .int y8_4), (3, .int (g2 70 0)), (0, .ref 69), (1, .long ar1)]) rfl rfl rfl rfl ?_
                have L54 : ∀ (m54 : Nat) (gi54 : Nat → Nat → Int32) (gl54 : Nat → Nat → Int64) (gr54 : Nat → Nat → Value) (y54_6 : Int32), t_I sh gi54 gr54 → t_X wl_n_findsReadings sh gi gl gr gi54 gl54 gr54 → 0 ≤ y54_6.toInt → y54_6.toInt ≤ 13 → gi54 70 0 = (g2 70 0) → (gi54 69 29).toInt ≤ 6 + 78 * y8_4.toInt + 13 * y15_5.toInt + y54_6.toInt → (∀ j, gi54 70 j = gi 70 j) → (∀ D : s_D, t_ME 0 gi D → t_Cb D → s_m1 D ar1 (D 0).toNat + s_m2 D ar1 (D 0).toNat y8_4.toNatClampNeg + s_cc D ar1 (-1) y8_4.toNatClampNeg y15_5.toNatClampNeg + s_cB D ar1 y8_4.toInt y15_5.toInt = (gi54 69 29).toInt + s_cb D ar1 y8_4.toInt y15_5.toInt (13 - y54_6.toInt).toNat y54_6.toInt ∧ y8_4.toInt < D 0 ∧ y15_5.toInt < D 0 ∧ (g2 70 0).toInt = D 0) → (13 - y54_6.toInt).toNat = m54 → x_Ev X (d + 4) n_X12_findsReadings 78 [(6, .int y54_6), (5, .int y15_5), (4, .int y8_4), (3, .int (g2 70 0)), (0, .ref 69), (1, .long ar1)] [] (sh, gi54, gl54, gr54) (t_PN wl_n_findsReadings sh gi gl gr (Q_n_findsReadings gi gl gr ar1)) := by
                  intro m54
                  induction m54 using Nat.strongRecOn with
                  | _ m54 ih54 =>
                  intro gi54 gl54 gr54 y54_6 hI hX l54_6 u54_6 c54_0 j54_0 j54_1 j54_2 hm54
                  obtain ⟨l55, u55⟩ := hI.b (hI.wf.s (k := 69) rfl) (t_bdK rfl : t_bd 11 29 = some (0, 500))
                  refine ev_loc f_X12_findsReadings (nx := 80) rfl rfl rfl rfl ?_
                  refine ev_bp f_X12_findsReadings (nx := 82) (v := 12) rfl (by decide) rfl ?_
                  refine ev_if f_X12_findsReadings (t1 := 122) (t2 := 85) rfl rfl rfl (fun h56 => ?_) (fun h56 => ?_)
                  · have l57 : 13 ≤ y54_6.toInt := t_ltl h56 (by decide : (12:Int) ≤ (12:Int32).toInt) rfl
                    refine ev_incR f_X12_findsReadings (nx := 125) (c := 1) (l := 1) (u := 5) rfl rfl (by decide) (by decide) l15_5 u52 rfl rfl (by decide) (by decide) rfl (fun z58 e58 l58 u58 => ?_)
                    refine ev_jmp f_X12_findsReadings (nx := 58) rfl rfl rfl ?_
                    refine ev_sub (lo := [(5, .int z58), (4, .int y8_4), (3, .int (g2 70 0)), (0, .ref 69), (1, .long ar1)]) rfl (t_sc rfl (t_sc rfl (t_sc rfl (t_sc rfl (t_sc rfl t_sn))))) ?_
                    exact ih15 _ (by omega) gi54 gl54 gr54 (z58) hI hX  (Int.le_trans (by decide : (0:Int) ≤ 1) l58) (Int.le_trans u58 (by decide : (5:Int) ≤ 6)) c54_0 (by omega) j54_1 (by
                                                            intro D hm hb
                                                            have z0 : (0 : Int32).toInt = 0 := rfl
                                                            have z1 : (1 : Int32).toInt = 1 := rfl
                                                            obtain ⟨g1, g2, g3, hn⟩ := j54_2 D hm hb
                                                            exact ⟨s_m3_s g1 (by omega) (by omega) (by omega) (by omega) (by omega), by omega, by omega, hn⟩) rfl
                  · have u59 : y54_6.toInt ≤ 12 := t_leu (t_nlt h56) (by decide : (12:Int32).toInt ≤ (12:Int))
                    refine ev_loc f_X12_findsReadings (nx := 86) rfl rfl rfl rfl ?_
                    refine ev_loc f_X12_findsReadings (nx := 88) rfl rfl rfl rfl ?_
                    refine ev_qL0 f_X12_findsReadings (nx := 91) (r := []) rfl rfl rfl rfl rfl rfl rfl (c_n_heardOf hI (y8_4) (Int.le_trans (by decide : (0:Int) ≤ 1) l53) u13) rfl (fun w60 q60 => ?_)
                    have q60 : (0 ≤ w60.toInt ∧ w60.toInt < 8589934592) ∧ ∀ D : s_D, t_ME 0 gi54 D → y8_4.toInt < D 0 → w60 = s_ec (s_so D y8_4.toNatClampNeg) (D 7) := q60
                    refine ev_loc f_X12_findsReadings (nx := 92) rfl rfl rfl rfl ?_
                    refine ev_loc f_X12_findsReadings (nx := 94) rfl rfl rfl rfl ?_
                    refine ev_qL0 f_X12_findsReadings (nx := 97) (r := [.long w60]) rfl rfl rfl rfl rfl rfl rfl (c_n_heardOf hI (y15_5) l15_5 (Int.le_trans u52 (by decide : (4:Int) ≤ 5))) rfl (fun w61 q61 => ?_)
                    have q61 : (0 ≤ w61.toInt ∧ w61.toInt < 8589934592) ∧ ∀ D : s_D, t_ME 0 gi54 D → y15_5.toInt < D 0 → w61 = s_ec (s_so D y15_5.toNatClampNeg) (D 7) := q61
                    refine ev_loc f_X12_findsReadings (nx := 99) rfl rfl rfl rfl ?_
                    refine ev_anyLE f_X12_findsReadings (nx := 100) rfl rfl rfl rfl (fun z62 e62 => ?_)
                    refine ev_anyLE f_X12_findsReadings (nx := 101) rfl rfl rfl rfl (fun z63 e63 => ?_)
                    refine ev_loc f_X12_findsReadings (nx := 102) rfl rfl rfl rfl ?_
                    refine ev_anyIE f_X12_findsReadings (nx := 103) rfl rfl rfl rfl (fun z64 e64 => ?_)
                    refine ev_if f_X12_findsReadings (t1 := 106) (t2 := 116) rfl rfl rfl (fun h65 => ?_) (fun h65 => ?_)
                    · have u66 : z64.toInt ≤ 0 := t_equ h65 (by decide : (0:Int32).toInt ≤ (0:Int))
                      have l67 : 0 ≤ z64.toInt := t_eql h65 (by decide : (0:Int) ≤ (0:Int32).toInt)
                      refine ev_loc f_X12_findsReadings (nx := 107) rfl rfl rfl rfl ?_
                      refine ev_loc f_X12_findsReadings (nx := 109) rfl rfl rfl rfl ?_
                      refine ev_loc f_X12_findsReadings (nx := 111) rfl rfl rfl rfl ?_
                      refine ev_loc f_X12_findsReadings (nx := 113) rfl rfl rfl rfl ?_
                      refine ev_inV4 f_X12_findsReadings (nx := 116) (lo2 := [(0, .ref 69), (1, .int y8_4), (2, .int y15_5), (3, .int y54_6)]) rfl rfl rfl rfl f_X12_reads (hI.wf.s rfl) rfl rfl rfl rfl rfl ?_
                      refine ev_loc f_X12_reads (nx := 1) rfl rfl rfl rfl ?_
                      refine ev_getR f_X12_reads (nx := 4) rfl (hI.wf.s rfl) rfl rfl (hI.wf.r rfl) rfl rfl ?_
                      refine ev_loc f_X12_reads (nx := 5) rfl rfl rfl rfl ?_
                      refine ev_gvI f_X12_reads (nx := 8) (w := (gi54 69 29)) rfl (hI.wf.s rfl) rfl rfl rfl rfl ?_
                      refine ev_loc f_X12_reads (nx := 9) rfl rfl rfl rfl ?_
                      have u69 : (gi54 69 29).toInt ≤ (499:Int) := (by omega)
                      refine ev_iastT f_X12_reads (nx := 10) rfl (hI.wf.s rfl) l55 (by decide) u69 (by decide) rfl (hI.astG (hI.wf.s rfl) (fun lo hi e => absurd e (t_nob (by decide +kernel) _)) (fun k hk e => by have := hk.2.1; omega)) (hX.upI (t_inA_ok rfl)) (fun g68 e68 hI hX => ?_)
                      refine ev_loc f_X12_reads (nx := 11) rfl rfl rfl rfl ?_
                      refine ev_getR f_X12_reads (nx := 14) rfl (hI.wf.s rfl) rfl rfl (hI.wf.r rfl) rfl rfl ?_
                      refine ev_loc f_X12_reads (nx := 15) rfl rfl rfl rfl ?_
                      refine ev_gvI f_X12_reads (nx := 18) (w := (gi54 69 29)) rfl (hI.wf.s rfl) rfl rfl ((by rw [e68]; exact x_up2_off (Or.inl (by decide)) : g68 69 29 = gi54 69 29).trans rfl) rfl ?_
                      refine ev_loc f_X12_reads (nx := 19) rfl rfl rfl rfl ?_
                      refine ev_iastT f_X12_reads (nx := 20) rfl (hI.wf.s rfl) l55 (by decide) u69 (by decide) rfl (hI.astG (hI.wf.s rfl) (fun lo hi e => absurd e (t_nob (by decide +kernel) _)) (fun k hk e => by have := hk.2.1; omega)) (hX.upI (t_inA_ok rfl)) (fun g70 e70 hI hX => ?_)
                      refine ev_loc f_X12_reads (nx := 21) rfl rfl rfl rfl ?_
                      refine ev_getR f_X12_reads (nx := 24) rfl (hI.wf.s rfl) rfl rfl (hI.wf.r rfl) rfl rfl ?_
                      refine ev_loc f_X12_reads (nx := 25) rfl rfl rfl rfl ?_
                      refine ev_gvI f_X12_reads (nx := 28) (w := (gi54 69 29)) rfl (hI.wf.s rfl) rfl rfl ((by rw [e70]; exact x_up2_off (Or.inl (by decide)) : g70 69 29 = g68 69 29).trans ((by rw [e68]; exact x_up2_off (Or.inl (by decide)) : g68 69 29 = gi54 69 29).trans rfl)) rfl ?_
                      refine ev_loc f_X12_reads (nx := 29) rfl rfl rfl rfl ?_
                      refine ev_iastT f_X12_reads (nx := 30) rfl (hI.wf.s rfl) l55 (by decide) u69 (by decide) rfl (hI.astG (hI.wf.s rfl) (fun lo hi e => absurd e (t_nob (by decide +kernel) _)) (fun k hk e => by have := hk.2.1; omega)) (hX.upI (t_inA_ok rfl)) (fun g71 e71 hI hX => ?_)
                      refine ev_loc f_X12_reads (nx := 31) rfl rfl rfl rfl ?_
                      refine ev_alu f_X12_reads (nx := 32) rfl rfl rfl rfl ?_
                      refine ev_gvI f_X12_reads (nx := 35) (w := (gi54 69 29)) rfl (hI.wf.s rfl) rfl rfl ((by rw [e71]; exact x_up2_off (Or.inl (by decide)) : g71 69 29 = g70 69 29).trans ((by rw [e70]; exact x_up2_off (Or.inl (by decide)) : g70 69 29 = g68 69 29).trans ((by rw [e68]; exact x_up2_off (Or.inl (by decide)) : g68 69 29 = gi54 69 29).trans rfl))) rfl ?_
                      refine ev_ic f_X12_reads (nx := 36) (v := 1) rfl (by decide) rfl ?_
                      refine ev_addC f_X12_reads (nx := 37) (c := 1) (l := 1) (u := 500) rfl (by decide) l55 u69 rfl rfl (by decide) (by decide) rfl (fun z72 e72 l72 u72 => ?_)
                      refine ev_putIT f_X12_reads (nx := 40) rfl (hI.wf.s rfl) rfl rfl rfl (hI.putB (hI.wf.s rfl) rfl rfl l72 (by decide) u72 (by decide)) (hX.upI rfl) (fun g73 e73 hI hX => ?_)
                      refine ev_retK0 f_X12_reads rfl rfl rfl ?_
                      refine ev_incR f_X12_findsReadings (nx := 119) (c := 1) (l := 1) (u := 13) rfl rfl (by decide) (by decide) l54_6 u59 rfl rfl (by decide) (by decide) rfl (fun z74 e74 l74 u74 => ?_)
                      refine ev_jmp f_X12_findsReadings (nx := 78) rfl rfl rfl ?_
                      refine ev_sub (lo := [(6, .int z74), (5, .int y15_5), (4, .int y8_4), (3, .int (g2 70 0)), (0, .ref 69), (1, .long ar1)]) rfl (t_sc rfl (t_sc rfl (t_sc rfl (t_sc rfl (t_sc rfl (t_sc rfl t_sn)))))) ?_
                      exact ih54 _ (by omega) g73 gl54 gr54 (z74) hI hX  (Int.le_trans (by decide : (0:Int) ≤ 1) l74) u74 ((by rw [e73]; exact x_up2_off (Or.inr (by decide)) : g73 70 0 = g71 70 0).trans ((by rw [e71]; exact x_up2_off (Or.inl (by decide)) : g71 70 0 = g70 70 0).trans ((by rw [e70]; exact x_up2_off (Or.inl (by decide)) : g70 70 0 = g68 70 0).trans ((by rw [e68]; exact x_up2_off (Or.inl (by decide)) : g68 70 0 = gi54 70 0).trans c54_0)))) (by have ff75 : (g73 69 29).toInt = z72.toInt := congrArg Int32.toInt (by rw [e73]; exact x_up2_at _ _ _ _ : g73 69 29 = z72); omega) (fun j => (congrFun ((by rw [e73]; exact x_up2_ne (by decide) : g73 70 = g71 70).trans ((by rw [e71]; exact x_up2_ne (by decide) : g71 70 = g70 70).trans ((by rw [e70]; exact x_up2_ne (by decide) : g70 70 = g68 70).trans ((by rw [e68]; exact x_up2_ne (by decide) : g68 70 = gi54 70))))) j).trans (j54_1 j)) (by
                                                            intro D hm hb
                                                            have z0 : (0 : Int32).toInt = 0 := rfl
                                                            have z1 : (1 : Int32).toInt = 1 := rfl
                                                            have ff76 : (g73 69 29).toInt = z72.toInt := congrArg Int32.toInt (by rw [e73]; exact x_up2_at _ _ _ _ : g73 69 29 = z72)
                                                            obtain ⟨g1, g2, g3, hn⟩ := j54_2 D hm hb
                                                            have hmN : t_ME 0 gi54 D := hm.mv hb (fun j _ _ _ => j54_1 (0 + j))
                                                            have hw60 : w60 = s_hd D y8_4.toInt := (q60.2 D hmN (by omega)).trans ((s_hd_i (D := D) (p := y8_4.toInt) (by omega) (by omega)).trans (by rw [show y8_4.toInt.toNat = y8_4.toNatClampNeg from (by have := t_clamp (i := y8_4) (by omega); omega)])).symm
                                                            have hw61 : w61 = s_hd D y15_5.toInt := (q61.2 D hmN (by omega)).trans ((s_hd_i (D := D) (p := y15_5.toInt) (by omega) (by omega)).trans (by rw [show y15_5.toInt.toNat = y15_5.toNatClampNeg from (by have := t_clamp (i := y15_5) (by omega); omega)])).symm
                                                            have hv := s_bw_e hw60 hw61 e62 e63
                                                            have hne := (t_le0 e64 h65)
                                                            rw [hv] at hne
                                                            exact ⟨s_m4_y g1 (by omega) hne (by omega) (by omega), by omega, by omega, hn⟩) rfl
                    · have r77 : z64.toInt ≠ 0 := fun e => h65 (Int32.toInt_inj.mp (e.trans (by decide : (0:Int) = (0 : Int32).toInt)))
                      refine ev_incR f_X12_findsReadings (nx := 119) (c := 1) (l := 1) (u := 13) rfl rfl (by decide) (by decide) l54_6 u59 rfl rfl (by decide) (by decide) rfl (fun z78 e78 l78 u78 => ?_)
                      refine ev_jmp f_X12_findsReadings (nx := 78) rfl rfl rfl ?_
                      refine ev_sub (lo := [(6, .int z78), (5, .int y15_5), (4, .int y8_4), (3, .int (g2 70 0)), (0, .ref 69), (1, .long ar1)]) rfl (t_sc rfl (t_sc rfl (t_sc rfl (t_sc rfl (t_sc rfl (t_sc rfl t_sn)))))) ?_
                      exact ih54 _ (by omega) gi54 gl54 gr54 (z78) hI hX  (Int.le_trans (by decide : (0:Int) ≤ 1) l78) u78 c54_0 (by omega) j54_1 (by
                                                            intro D hm hb
                                                            have z0 : (0 : Int32).toInt = 0 := rfl
                                                            have z1 : (1 : Int32).toInt = 1 := rfl
                                                            obtain ⟨g1, g2, g3, hn⟩ := j54_2 D hm hb
                                                            have hmN : t_ME 0 gi54 D := hm.mv hb (fun j _ _ _ => j54_1 (0 + j))
                                                            have hw60 : w60 = s_hd D y8_4.toInt := (q60.2 D hmN (by omega)).trans ((s_hd_i (D := D) (p := y8_4.toInt) (by omega) (by omega)).trans (by rw [show y8_4.toInt.toNat = y8_4.toNatClampNeg from (by have := t_clamp (i := y8_4) (by omega); omega)])).symm
                                                            have hw61 : w61 = s_hd D y15_5.toInt := (q61.2 D hmN (by omega)).trans ((s_hd_i (D := D) (p := y15_5.toInt) (by omega) (by omega)).trans (by rw [show y15_5.toInt.toNat = y15_5.toNatClampNeg from (by have := t_clamp (i := y15_5) (by omega); omega)])).symm
                                                            have hv := s_bw_e hw60 hw61 e62 e63
                                                            have hne := (t_le1 e64 h65)
                                                            rw [hv] at hne
                                                            exact ⟨s_m4_n g1 (by omega) hne (by omega) (by omega), by omega, by omega, hn⟩) rfl
                refine ev_sub (lo := [(6, .int 1), (5, .int y15_5), (4, .int y8_4), (3, .int (g2 70 0)), (0, .ref 69), (1, .long ar1)]) rfl (t_sc rfl (t_sc rfl (t_sc rfl (t_sc rfl (t_sc rfl (t_sc rfl t_sn)))))) ?_
                exact L54 _ gi15 gl15 gr15 (1) hI hX  (Int.le_trans (by decide : (0:Int) ≤ 1) (by decide : (1:Int) ≤ (1:Int32).toInt)) (Int.le_trans (by decide : (1:Int32).toInt ≤ (1:Int)) (by decide : (1:Int) ≤ 13)) c15_0 (by have kf79 : (1 : Int32).toInt = 1 := (by decide); omega) j15_1 (by
                                                            intro D hm hb
                                                            have z0 : (0 : Int32).toInt = 0 := rfl
                                                            have z1 : (1 : Int32).toInt = 1 := rfl
                                                            obtain ⟨g1, g2, g3, hn⟩ := j15_2 D hm hb
                                                            have hl2 : s_lb y8_4.toInt y15_5.toInt = (1 : Int32).toInt := s_lb_1 (by omega)
                                                            exact ⟨s_m4_b g1 (by omega) hl2.symm, by omega, by omega, hn⟩) rfl
          refine ev_sub (lo := [(5, .int 0), (4, .int y8_4), (3, .int (g2 70 0)), (0, .ref 69), (1, .long ar1)]) rfl (t_sc rfl (t_sc rfl (t_sc rfl (t_sc rfl (t_sc rfl t_sn))))) ?_
          exact L15 _ gi8 gl8 gr8 (0) hI hX  (by decide : (0:Int) ≤ (0:Int32).toInt) (Int.le_trans (by decide : (0:Int32).toInt ≤ (0:Int)) (by decide : (0:Int) ≤ 6)) c8_0 (by have kf80 : (0 : Int32).toInt = 0 := (by decide); omega) j8_1 (by
                                                            intro D hm hb
                                                            have z0 : (0 : Int32).toInt = 0 := rfl
                                                            have z1 : (1 : Int32).toInt = 1 := rfl
                                                            obtain ⟨g1, g2, hn⟩ := j8_2 D hm hb
                                                            exact ⟨s_m3_b g1 (by omega) (by omega), by omega, by omega, hn⟩) rfl
      refine ev_sub (lo := [(4, .int 0), (3, .int (g2 70 0)), (0, .ref 69), (1, .long ar1)]) rfl (t_sc rfl (t_sc rfl (t_sc rfl (t_sc rfl t_sn)))) ?_
      exact L8 _ gi4 gl4 gr4 (0) hI hX  (by decide : (0:Int) ≤ (0:Int32).toInt) (Int.le_trans (by decide : (0:Int32).toInt ≤ (0:Int)) (by decide : (0:Int) ≤ 6)) c4_0 (by have kf81 : (0 : Int32).toInt = 0 := (by decide); omega) j4_1 (by
                                                            intro D hm hb
                                                            have z0 : (0 : Int32).toInt = 0 := rfl
                                                            have z1 : (1 : Int32).toInt = 1 := rfl
                                                            obtain ⟨g1, g2, hn⟩ := j4_2 D hm hb
                                                            have b0 := hb.1.1
                                                            exact ⟨s_m2_b g1 (by omega) (by omega) (by omega) (by omega), by omega, hn⟩) rfl
    · have r82 : y4_4.toInt < (g2 70 0).toInt := Int32.lt_iff_toInt_lt.mp (t_nle h6)
      have u83 : y4_4.toInt ≤ 5 := t_ltu (t_nle h6) u3 rfl
      have l84 : 1 ≤ (g2 70 0).toInt := t_ltl (t_nle h6) l4_4 rfl
      refine ev_loc f_X12_findsReadings (nx := 22) rfl rfl rfl rfl ?_
      refine ev_loc f_X12_findsReadings (nx := 24) rfl rfl rfl rfl ?_
      refine ev_qL0 f_X12_findsReadings (nx := 27) (r := []) rfl rfl rfl rfl rfl rfl rfl (c_n_heardOf hI (y4_4) l4_4 u83) rfl (fun w85 q85 => ?_)
      have q85 : (0 ≤ w85.toInt ∧ w85.toInt < 8589934592) ∧ ∀ D : s_D, t_ME 0 gi4 D → y4_4.toInt < D 0 → w85 = s_ec (s_so D y4_4.toNatClampNeg) (D 7) := q85
      refine ev_loc f_X12_findsReadings (nx := 28) rfl rfl rfl rfl ?_
      refine ev_anyIE f_X12_findsReadings (nx := 29) rfl rfl rfl rfl (fun z86 e86 => ?_)
      refine ev_if f_X12_findsReadings (t1 := 32) (t2 := 40) rfl rfl rfl (fun h87 => ?_) (fun h87 => ?_)
      · have u88 : z86.toInt ≤ 0 := t_equ h87 (by decide : (0:Int32).toInt ≤ (0:Int))
        have l89 : 0 ≤ z86.toInt := t_eql h87 (by decide : (0:Int) ≤ (0:Int32).toInt)
        refine ev_loc f_X12_findsReadings (nx := 33) rfl rfl rfl rfl ?_
        refine ev_loc f_X12_findsReadings (nx := 35) rfl rfl rfl rfl ?_
        refine ev_ic f_X12_findsReadings (nx := 36) (v := -1) rfl (by decide) rfl ?_
        refine ev_ic f_X12_findsReadings (nx := 37) (v := -1) rfl (by decide) rfl ?_
        refine ev_inV4 f_X12_findsReadings (nx := 40) (lo2 := [(0, .ref 69), (1, .int y4_4), (2, .int (-1)), (3, .int (-1))]) rfl rfl rfl rfl f_X12_reads (hI.wf.s rfl) rfl rfl rfl rfl rfl ?_
        refine ev_loc f_X12_reads (nx := 1) rfl rfl rfl rfl ?_
        refine ev_getR f_X12_reads (nx := 4) rfl (hI.wf.s rfl) rfl rfl (hI.wf.r rfl) rfl rfl ?_
        refine ev_loc f_X12_reads (nx := 5) rfl rfl rfl rfl ?_
        refine ev_gvI f_X12_reads (nx := 8) (w := (gi4 69 29)) rfl (hI.wf.s rfl) rfl rfl rfl rfl ?_
        refine ev_loc f_X12_reads (nx := 9) rfl rfl rfl rfl ?_
        have u91 : (gi4 69 29).toInt ≤ (499:Int) := (by omega)
        refine ev_iastT f_X12_reads (nx := 10) rfl (hI.wf.s rfl) l5 (by decide) u91 (by decide) rfl (hI.astG (hI.wf.s rfl) (fun lo hi e => absurd e (t_nob (by decide +kernel) _)) (fun k hk e => by have := hk.2.1; omega)) (hX.upI (t_inA_ok rfl)) (fun g90 e90 hI hX => ?_)
        refine ev_loc f_X12_reads (nx := 11) rfl rfl rfl rfl ?_
        refine ev_getR f_X12_reads (nx := 14) rfl (hI.wf.s rfl) rfl rfl (hI.wf.r rfl) rfl rfl ?_
        refine ev_loc f_X12_reads (nx := 15) rfl rfl rfl rfl ?_
        refine ev_gvI f_X12_reads (nx := 18) (w := (gi4 69 29)) rfl (hI.wf.s rfl) rfl rfl ((by rw [e90]; exact x_up2_off (Or.inl (by decide)) : g90 69 29 = gi4 69 29).trans rfl) rfl ?_
        refine ev_loc f_X12_reads (nx := 19) rfl rfl rfl rfl ?_
        refine ev_iastT f_X12_reads (nx := 20) rfl (hI.wf.s rfl) l5 (by decide) u91 (by decide) rfl (hI.astG (hI.wf.s rfl) (fun lo hi e => absurd e (t_nob (by decide +kernel) _)) (fun k hk e => by have := hk.2.1; omega)) (hX.upI (t_inA_ok rfl)) (fun g92 e92 hI hX => ?_)
        refine ev_loc f_X12_reads (nx := 21) rfl rfl rfl rfl ?_
        refine ev_getR f_X12_reads (nx := 24) rfl (hI.wf.s rfl) rfl rfl (hI.wf.r rfl) rfl rfl ?_
        refine ev_loc f_X12_reads (nx := 25) rfl rfl rfl rfl ?_
        refine ev_gvI f_X12_reads (nx := 28) (w := (gi4 69 29)) rfl (hI.wf.s rfl) rfl rfl ((by rw [e92]; exact x_up2_off (Or.inl (by decide)) : g92 69 29 = g90 69 29).trans ((by rw [e90]; exact x_up2_off (Or.inl (by decide)) : g90 69 29 = gi4 69 29).trans rfl)) rfl ?_
        refine ev_loc f_X12_reads (nx := 29) rfl rfl rfl rfl ?_
        refine ev_iastT f_X12_reads (nx := 30) rfl (hI.wf.s rfl) l5 (by decide) u91 (by decide) rfl (hI.astG (hI.wf.s rfl) (fun lo hi e => absurd e (t_nob (by decide +kernel) _)) (fun k hk e => by have := hk.2.1; omega)) (hX.upI (t_inA_ok rfl)) (fun g93 e93 hI hX => ?_)
        refine ev_loc f_X12_reads (nx := 31) rfl rfl rfl rfl ?_
        refine ev_alu f_X12_reads (nx := 32) rfl rfl rfl rfl ?_
        refine ev_gvI f_X12_reads (nx := 35) (w := (gi4 69 29)) rfl (hI.wf.s rfl) rfl rfl ((by rw [e93]; exact x_up2_off (Or.inl (by decide)) : g93 69 29 = g92 69 29).trans ((by rw [e92]; exact x_up2_off (Or.inl (by decide)) : g92 69 29 = g90 69 29).trans ((by rw [e90]; exact x_up2_off (Or.inl (by decide)) : g90 69 29 = gi4 69 29).trans rfl))) rfl ?_
        refine ev_ic f_X12_reads (nx := 36) (v := 1) rfl (by decide) rfl ?_
        refine ev_addC f_X12_reads (nx := 37) (c := 1) (l := 1) (u := 500) rfl (by decide) l5 u91 rfl rfl (by decide) (by decide) rfl (fun z94 e94 l94 u94 => ?_)
        refine ev_putIT f_X12_reads (nx := 40) rfl (hI.wf.s rfl) rfl rfl rfl (hI.putB (hI.wf.s rfl) rfl rfl l94 (by decide) u94 (by decide)) (hX.upI rfl) (fun g95 e95 hI hX => ?_)
        refine ev_retK0 f_X12_reads rfl rfl rfl ?_
        refine ev_incR f_X12_findsReadings (nx := 43) (c := 1) (l := 1) (u := 6) rfl rfl (by decide) (by decide) l4_4 u83 rfl rfl (by decide) (by decide) rfl (fun z96 e96 l96 u96 => ?_)
        refine ev_jmp f_X12_findsReadings (nx := 15) rfl rfl rfl ?_
        refine ev_sub (lo := [(4, .int z96), (3, .int (g2 70 0)), (0, .ref 69), (1, .long ar1)]) rfl (t_sc rfl (t_sc rfl (t_sc rfl (t_sc rfl t_sn)))) ?_
        exact ih4 _ (by omega) g95 gl4 gr4 (z96) hI hX  (Int.le_trans (by decide : (0:Int) ≤ 1) l96) u96 ((by rw [e95]; exact x_up2_off (Or.inr (by decide)) : g95 70 0 = g93 70 0).trans ((by rw [e93]; exact x_up2_off (Or.inl (by decide)) : g93 70 0 = g92 70 0).trans ((by rw [e92]; exact x_up2_off (Or.inl (by decide)) : g92 70 0 = g90 70 0).trans ((by rw [e90]; exact x_up2_off (Or.inl (by decide)) : g90 70 0 = gi4 70 0).trans c4_0)))) (by have ff97 : (g95 69 29).toInt = z94.toInt := congrArg Int32.toInt (by rw [e95]; exact x_up2_at _ _ _ _ : g95 69 29 = z94); omega) (fun j => (congrFun ((by rw [e95]; exact x_up2_ne (by decide) : g95 70 = g93 70).trans ((by rw [e93]; exact x_up2_ne (by decide) : g93 70 = g92 70).trans ((by rw [e92]; exact x_up2_ne (by decide) : g92 70 = g90 70).trans ((by rw [e90]; exact x_up2_ne (by decide) : g90 70 = gi4 70))))) j).trans (j4_1 j)) (by
                                                            intro D hm hb
                                                            have z0 : (0 : Int32).toInt = 0 := rfl
                                                            have z1 : (1 : Int32).toInt = 1 := rfl
                                                            have ff98 : (g95 69 29).toInt = z94.toInt := congrArg Int32.toInt (by rw [e95]; exact x_up2_at _ _ _ _ : g95 69 29 = z94)
                                                            obtain ⟨g1, g2, hn⟩ := j4_2 D hm hb
                                                            have hmN : t_ME 0 gi4 D := hm.mv hb (fun j _ _ _ => j4_1 (0 + j))
                                                            have hw85 : w85 = s_hd D y4_4.toInt := (q85.2 D hmN (by omega)).trans ((s_hd_i (D := D) (p := y4_4.toInt) (by omega) (by omega)).trans (by rw [show y4_4.toInt.toNat = y4_4.toNatClampNeg from (by have := t_clamp (i := y4_4) (by omega); omega)])).symm
                                                            have hne := (t_le0 e86 h87)
                                                            rw [hw85] at hne
                                                            exact ⟨s_m1_y g1 (by omega) hne (by omega) (by omega), by omega, hn⟩) rfl
      · have r99 : z86.toInt ≠ 0 := fun e => h87 (Int32.toInt_inj.mp (e.trans (by decide : (0:Int) = (0 : Int32).toInt)))
        refine ev_incR f_X12_findsReadings (nx := 43) (c := 1) (l := 1) (u := 6) rfl rfl (by decide) (by decide) l4_4 u83 rfl rfl (by decide) (by decide) rfl (fun z100 e100 l100 u100 => ?_)
        refine ev_jmp f_X12_findsReadings (nx := 15) rfl rfl rfl ?_
        refine ev_sub (lo := [(4, .int z100), (3, .int (g2 70 0)), (0, .ref 69), (1, .long ar1)]) rfl (t_sc rfl (t_sc rfl (t_sc rfl (t_sc rfl t_sn)))) ?_
        exact ih4 _ (by omega) gi4 gl4 gr4 (z100) hI hX  (Int.le_trans (by decide : (0:Int) ≤ 1) l100) u100 c4_0 (by omega) j4_1 (by
                                                            intro D hm hb
                                                            have z0 : (0 : Int32).toInt = 0 := rfl
                                                            have z1 : (1 : Int32).toInt = 1 := rfl
                                                            obtain ⟨g1, g2, hn⟩ := j4_2 D hm hb
                                                            have hmN : t_ME 0 gi4 D := hm.mv hb (fun j _ _ _ => j4_1 (0 + j))
                                                            have hw85 : w85 = s_hd D y4_4.toInt := (q85.2 D hmN (by omega)).trans ((s_hd_i (D := D) (p := y4_4.toInt) (by omega) (by omega)).trans (by rw [show y4_4.toInt.toNat = y4_4.toNatClampNeg from (by have := t_clamp (i := y4_4) (by omega); omega)])).symm
                                                            have hne := (t_le1 e86 h87)
                                                            rw [hw85] at hne
                                                            exact ⟨s_m1_n g1 (by omega) hne (by omega) (by omega), by omega, hn⟩) rfl
  refine ev_sub (lo := [(4, .int 0), (3, .int (g2 70 0)), (0, .ref 69), (1, .long ar1)]) rfl (t_sc rfl (t_sc rfl (t_sc rfl (t_sc rfl t_sn)))) ?_
  exact L4 _ g2 gl gr (0) hI hX  (by decide : (0:Int) ≤ (0:Int32).toInt) (Int.le_trans (by decide : (0:Int32).toInt ≤ (0:Int)) (by decide : (0:Int) ≤ 6)) rfl (by have kf101 : (0 : Int32).toInt = 0 := (by decide); have ff102 : (g2 69 29).toInt = 0 := (congrArg Int32.toInt (by rw [e2]; exact x_up2_at _ _ _ _ : g2 69 29 = 0)).trans (by decide); omega) (fun j => (congrFun ((by rw [e2]; exact x_up2_ne (by decide) : g2 70 = gi 70)) j).trans ((fun _ => rfl) j)) (by
                                                            intro D hm hb
                                                            have z0 : (0 : Int32).toInt = 0 := rfl
                                                            have z1 : (1 : Int32).toInt = 1 := rfl
                                                            have ff103 : (g2 69 29).toInt = 0 := (congrArg Int32.toInt (by rw [e2]; exact x_up2_at _ _ _ _ : g2 69 29 = 0)).trans (by decide)
                                                            have hn : (g2 70 0).toInt = D 0 := by rw [e2, x_up2_off (Or.inl (by decide))]; exact hm.1.1.1
                                                            have b0 := hb.1.1
                                                            exact ⟨(by show _ = (0 : Int); omega), by omega, hn⟩) rfl
/-! ===== the first of the BEATS by which a couple has one READING ===== -/
noncomputable def s_cl (D : s_D) (a b : Int) : Nat → Int → Int
  | 0, _ => -1
  | m + 1, e => s_if (s_ct D (s_bw D a b e) (-1) = 1) e (s_cl D a b m (e + 1))
section CLB
variable {D : s_D} {a b x e e' : Int}
theorem s_cl_1 (h1 : e ≤ 12) : s_cl D a b (13 - e).toNat e = s_if (s_ct D (s_bw D a b e) (-1) = 1) e (s_cl D a b (13 - (e + 1)).toNat (e + 1)) := by
  rw [show (13 - e).toNat = (13 - (e + 1)).toNat + 1 by omega]; rfl
theorem s_cl_s (h : x = s_cl D a b (13 - e).toNat e) (h1 : e ≤ 12) (hn : ¬ s_ct D (s_bw D a b e) (-1) = 1) (he : e' = e + 1) : x = s_cl D a b (13 - e').toNat e' := by
  rw [h, s_cl_1 h1, s_ifF hn, he]
theorem s_cl_f (h : x = s_cl D a b (13 - e).toNat e) (h1 : e ≤ 12) (hn : s_ct D (s_bw D a b e) (-1) = 1) : x = e := by
  rw [h, s_cl_1 h1, s_ifT hn]
theorem s_cl_e (h : x = s_cl D a b (13 - e).toNat e) (h1 : 13 ≤ e) : x = -1 := by
  rw [h, show (13 - e).toNat = 0 by omega]; rfl
end CLB
/-! ===== printed by riv.py: clearBeats, doubt ===== -/
noncomputable def wl_d_clearBeats : List (Nat × Nat) := [(0, 0)]
noncomputable def Q_d_clearBeats (gi : Nat → Nat → Int32) (gl : Nat → Nat → Int64) (gr : Nat → Nat → Value) (ar1 : Int32) (ar2 : Int32) : Int32 → (Nat → Nat → Int32) → (Nat → Nat → Int64) → (Nat → Nat → Value) → Prop := fun (v : Int32) (gi2 : Nat → Nat → Int32) (gl2 : Nat → Nat → Int64) (gr2 : Nat → Nat → Value) => ∀ (u : Nat) (D : s_D), gr 0 6 = .ref u → t_VL gr u → t_CV gi gl u D → t_Cb D → ((0 ≤ ar1.toInt ∧ ar1.toInt < D 0 ∧ 0 ≤ ar2.toInt ∧ ar2.toInt < D 0) → v.toInt = s_cl D ar1.toInt ar2.toInt 13 0) ∧ (¬ (0 ≤ ar1.toInt ∧ ar1.toInt < D 0 ∧ 0 ≤ ar2.toInt ∧ ar2.toInt < D 0) → v.toInt = -1)
theorem c_d_clearBeats {X : x_Ext} {d : Nat} {sh : List (Nat ⊕ (Nat × Nat))} {gi : Nat → Nat → Int32} {gl : Nat → Nat → Int64} {gr : Nat → Nat → Value} (hI : t_I sh gi gr) (ar1 : Int32) (ar2 : Int32) : x_Me X (d + 6) n_X11_clearBeats [.ref 0, .int ar1, .int ar2] (sh, gi, gl, gr) (t_PI wl_d_clearBeats sh gi gl gr (-1) 12 (Q_d_clearBeats gi gl gr ar1 ar2)) := by
  have hX : t_X wl_d_clearBeats sh gi gl gr gi gl gr := t_X.rf
  refine me_i f_X11_clearBeats (hI.wf.s rfl) rfl rfl rfl ?_
  refine ev_loc f_X11_clearBeats (nx := 1) rfl rfl rfl rfl ?_
  refine ev_loc f_X11_clearBeats (nx := 2) rfl rfl rfl rfl ?_
  refine ev_inV2 f_X11_clearBeats (nx := 5) (lo2 := [(0, .ref 0), (1, .int ar1)]) rfl rfl rfl rfl f_X11_isPort (hI.wf.s rfl) rfl rfl rfl rfl rfl ?_
  refine ev_loc f_X11_isPort (nx := 1) rfl rfl rfl rfl ?_
  refine ev_if f_X11_isPort (t1 := 19) (t2 := 4) rfl rfl rfl (fun h1 => ?_) (fun h1 => ?_)
  · have u2 : ar1.toInt ≤ (-1) := t_ltu h1 (by decide : (0:Int32).toInt ≤ (0:Int)) rfl
    refine ev_ic f_X11_isPort (nx := 20) (v := 0) rfl (by decide) rfl ?_
    refine ev_retK1 f_X11_isPort rfl rfl rfl ?_
    refine ev_t f_X11_clearBeats (t1 := 16) (t2 := 8) rfl rfl rfl (by decide) ?_
    refine ev_loc f_X11_clearBeats (nx := 17) rfl rfl rfl rfl ?_
    refine ev_ic f_X11_clearBeats (nx := 18) (v := 1) rfl (by decide) rfl ?_
    refine ev_inV2 f_X11_clearBeats (nx := 21) (lo2 := [(0, .ref 0), (1, .int 1)]) rfl rfl rfl rfl f_X11_refuse (hI.wf.s rfl) rfl rfl rfl rfl rfl ?_
    refine ev_loc f_X11_refuse (nx := 1) rfl rfl rfl rfl ?_
    refine ev_loc f_X11_refuse (nx := 2) rfl rfl rfl rfl ?_
    refine ev_putIT f_X11_refuse (nx := 5) rfl (hI.wf.s rfl) rfl rfl rfl (hI.put0 (hI.wf.s rfl) rfl rfl) (hX.upI rfl) (fun g3 e3 hI hX => ?_)
    refine ev_ic f_X11_refuse (nx := 6) (v := -1) rfl (by decide) rfl ?_
    refine ev_retK1 f_X11_refuse rfl rfl rfl ?_
    exact ev_ret f_X11_clearBeats rfl rfl rfl ⟨_, _, _, rfl, hI, hX, ⟨_, rfl, (by decide : ((-1):Int) ≤ ((-1):Int32).toInt), (Int.le_trans (by decide : ((-1):Int32).toInt ≤ ((-1):Int)) (by decide : ((-1):Int) ≤ 12)), (show ∀ (u : Nat) (D : s_D), gr 0 6 = .ref u → t_VL gr u → t_CV gi gl u D → t_Cb D → ((0 ≤ ar1.toInt ∧ ar1.toInt < D 0 ∧ 0 ≤ ar2.toInt ∧ ar2.toInt < D 0) → ((-1) : Int) = s_cl D ar1.toInt ar2.toInt 13 0) ∧ (¬ (0 ≤ ar1.toInt ∧ ar1.toInt < D 0 ∧ 0 ≤ ar2.toInt ∧ ar2.toInt < D 0) → ((-1) : Int) = -1) from (by
                                                            intro u D hu hl hc hb
                                                            have hm := hc.1.1
                                                            exact ⟨fun h => absurd h (by omega), fun _ => rfl⟩))⟩⟩
  · have l4 : 0 ≤ ar1.toInt := t_lel (t_nlt h1) (by decide : (0:Int) ≤ (0:Int32).toInt)
    refine ev_loc f_X11_isPort (nx := 5) rfl rfl rfl rfl ?_
    refine ev_loc f_X11_isPort (nx := 6) rfl rfl rfl rfl ?_
    obtain ⟨a5, e5, p5⟩ := hI.2.2.2.1.1
    refine ev_getR f_X11_isPort (nx := 9) rfl (hI.wf.s rfl) rfl rfl e5 rfl rfl ?_
    refine ev_getI f_X11_isPort (nx := 12) rfl p5.1 rfl rfl rfl ?_
    obtain ⟨l6, u6⟩ := hI.b p5.1 (t_bdK rfl : t_bd 4 0 = some (0, 6))
    refine ev_if f_X11_isPort (t1 := 19) (t2 := 15) rfl rfl rfl (fun h7 => ?_) (fun h7 => ?_)
    · have r8 : (gi a5 0).toInt ≤ ar1.toInt := Int32.le_iff_toInt_le.mp h7
      refine ev_ic f_X11_isPort (nx := 20) (v := 0) rfl (by decide) rfl ?_
      refine ev_retK1 f_X11_isPort rfl rfl rfl ?_
      refine ev_t f_X11_clearBeats (t1 := 16) (t2 := 8) rfl rfl rfl (by decide) ?_
      refine ev_loc f_X11_clearBeats (nx := 17) rfl rfl rfl rfl ?_
      refine ev_ic f_X11_clearBeats (nx := 18) (v := 1) rfl (by decide) rfl ?_
      refine ev_inV2 f_X11_clearBeats (nx := 21) (lo2 := [(0, .ref 0), (1, .int 1)]) rfl rfl rfl rfl f_X11_refuse (hI.wf.s rfl) rfl rfl rfl rfl rfl ?_
      refine ev_loc f_X11_refuse (nx := 1) rfl rfl rfl rfl ?_
      refine ev_loc f_X11_refuse (nx := 2) rfl rfl rfl rfl ?_
      refine ev_putIT f_X11_refuse (nx := 5) rfl (hI.wf.s rfl) rfl rfl rfl (hI.put0 (hI.wf.s rfl) rfl rfl) (hX.upI rfl) (fun g9 e9 hI hX => ?_)
      refine ev_ic f_X11_refuse (nx := 6) (v := -1) rfl (by decide) rfl ?_
      refine ev_retK1 f_X11_refuse rfl rfl rfl ?_
      exact ev_ret f_X11_clearBeats rfl rfl rfl ⟨_, _, _, rfl, hI, hX, ⟨_, rfl, (by decide : ((-1):Int) ≤ ((-1):Int32).toInt), (Int.le_trans (by decide : ((-1):Int32).toInt ≤ ((-1):Int)) (by decide : ((-1):Int) ≤ 12)), (show ∀ (u : Nat) (D : s_D), gr 0 6 = .ref u → t_VL gr u → t_CV gi gl u D → t_Cb D → ((0 ≤ ar1.toInt ∧ ar1.toInt < D 0 ∧ 0 ≤ ar2.toInt ∧ ar2.toInt < D 0) → ((-1) : Int) = s_cl D ar1.toInt ar2.toInt 13 0) ∧ (¬ (0 ≤ ar1.toInt ∧ ar1.toInt < D 0 ∧ 0 ≤ ar2.toInt ∧ ar2.toInt < D 0) → ((-1) : Int) = -1) from (by
                                                            intro u D hu hl hc hb
                                                            have ha : a5 = u := Value.ref.inj (e5.symm.trans hu)
                                                            subst ha
                                                            have hm := hc.1.1
                                                            exact ⟨fun h => absurd h (by omega), fun _ => rfl⟩))⟩⟩
    · have r10 : ar1.toInt < (gi a5 0).toInt := Int32.lt_iff_toInt_lt.mp (t_nle h7)
      have u11 : ar1.toInt ≤ 5 := t_ltu (t_nle h7) u6 rfl
      have l12 : 1 ≤ (gi a5 0).toInt := t_ltl (t_nle h7) l4 rfl
      refine ev_ic f_X11_isPort (nx := 16) (v := 1) rfl (by decide) rfl ?_
      refine ev_jmp f_X11_isPort (nx := 20) rfl rfl rfl ?_
      refine ev_retK1 f_X11_isPort rfl rfl rfl ?_
      refine ev_f f_X11_clearBeats (t1 := 16) (t2 := 8) rfl rfl rfl (by decide) ?_
      refine ev_loc f_X11_clearBeats (nx := 9) rfl rfl rfl rfl ?_
      refine ev_loc f_X11_clearBeats (nx := 10) rfl rfl rfl rfl ?_
      refine ev_inV2 f_X11_clearBeats (nx := 13) (lo2 := [(0, .ref 0), (1, .int ar2)]) rfl rfl rfl rfl f_X11_isPort (hI.wf.s rfl) rfl rfl rfl rfl rfl ?_
      refine ev_loc f_X11_isPort (nx := 1) rfl rfl rfl rfl ?_
      refine ev_if f_X11_isPort (t1 := 19) (t2 := 4) rfl rfl rfl (fun h13 => ?_) (fun h13 => ?_)
      · have u14 : ar2.toInt ≤ (-1) := t_ltu h13 (by decide : (0:Int32).toInt ≤ (0:Int)) rfl
        refine ev_ic f_X11_isPort (nx := 20) (v := 0) rfl (by decide) rfl ?_
        refine ev_retK1 f_X11_isPort rfl rfl rfl ?_
        refine ev_t f_X11_clearBeats (t1 := 16) (t2 := 22) rfl rfl rfl (by decide) ?_
        refine ev_loc f_X11_clearBeats (nx := 17) rfl rfl rfl rfl ?_
        refine ev_ic f_X11_clearBeats (nx := 18) (v := 1) rfl (by decide) rfl ?_
        refine ev_inV2 f_X11_clearBeats (nx := 21) (lo2 := [(0, .ref 0), (1, .int 1)]) rfl rfl rfl rfl f_X11_refuse (hI.wf.s rfl) rfl rfl rfl rfl rfl ?_
        refine ev_loc f_X11_refuse (nx := 1) rfl rfl rfl rfl ?_
        refine ev_loc f_X11_refuse (nx := 2) rfl rfl rfl rfl ?_
        refine ev_putIT f_X11_refuse (nx := 5) rfl (hI.wf.s rfl) rfl rfl rfl (hI.put0 (hI.wf.s rfl) rfl rfl) (hX.upI rfl) (fun g15 e15 hI hX => ?_)
        refine ev_ic f_X11_refuse (nx := 6) (v := -1) rfl (by decide) rfl ?_
        refine ev_retK1 f_X11_refuse rfl rfl rfl ?_
        exact ev_ret f_X11_clearBeats rfl rfl rfl ⟨_, _, _, rfl, hI, hX, ⟨_, rfl, (by decide : ((-1):Int) ≤ ((-1):Int32).toInt), (Int.le_trans (by decide : ((-1):Int32).toInt ≤ ((-1):Int)) (by decide : ((-1):Int) ≤ 12)), (show ∀ (u : Nat) (D : s_D), gr 0 6 = .ref u → t_VL gr u → t_CV gi gl u D → t_Cb D → ((0 ≤ ar1.toInt ∧ ar1.toInt < D 0 ∧ 0 ≤ ar2.toInt ∧ ar2.toInt < D 0) → ((-1) : Int) = s_cl D ar1.toInt ar2.toInt 13 0) ∧ (¬ (0 ≤ ar1.toInt ∧ ar1.toInt < D 0 ∧ 0 ≤ ar2.toInt ∧ ar2.toInt < D 0) → ((-1) : Int) = -1) from (by
                                                            intro u D hu hl hc hb
                                                            have ha : a5 = u := Value.ref.inj (e5.symm.trans hu)
                                                            subst ha
                                                            have hm := hc.1.1
                                                            exact ⟨fun h => absurd h (by omega), fun _ => rfl⟩))⟩⟩
      · have l16 : 0 ≤ ar2.toInt := t_lel (t_nlt h13) (by decide : (0:Int) ≤ (0:Int32).toInt)
        refine ev_loc f_X11_isPort (nx := 5) rfl rfl rfl rfl ?_
        refine ev_loc f_X11_isPort (nx := 6) rfl rfl rfl rfl ?_
        refine ev_getR f_X11_isPort (nx := 9) (v := .ref a5) rfl (hI.wf.s rfl) rfl rfl e5 rfl rfl ?_
        refine ev_gvI f_X11_isPort (nx := 12) (w := (gi a5 0)) rfl p5.1 rfl rfl rfl rfl ?_
        refine ev_if f_X11_isPort (t1 := 19) (t2 := 15) rfl rfl rfl (fun h17 => ?_) (fun h17 => ?_)
        · have r18 : (gi a5 0).toInt ≤ ar2.toInt := Int32.le_iff_toInt_le.mp h17
          have l19 : 1 ≤ ar2.toInt := t_lel h17 l12
          refine ev_ic f_X11_isPort (nx := 20) (v := 0) rfl (by decide) rfl ?_
          refine ev_retK1 f_X11_isPort rfl rfl rfl ?_
          refine ev_t f_X11_clearBeats (t1 := 16) (t2 := 22) rfl rfl rfl (by decide) ?_
          refine ev_loc f_X11_clearBeats (nx := 17) rfl rfl rfl rfl ?_
          refine ev_ic f_X11_clearBeats (nx := 18) (v := 1) rfl (by decide) rfl ?_
          refine ev_inV2 f_X11_clearBeats (nx := 21) (lo2 := [(0, .ref 0), (1, .int 1)]) rfl rfl rfl rfl f_X11_refuse (hI.wf.s rfl) rfl rfl rfl rfl rfl ?_
          refine ev_loc f_X11_refuse (nx := 1) rfl rfl rfl rfl ?_
          refine ev_loc f_X11_refuse (nx := 2) rfl rfl rfl rfl ?_
          refine ev_putIT f_X11_refuse (nx := 5) rfl (hI.wf.s rfl) rfl rfl rfl (hI.put0 (hI.wf.s rfl) rfl rfl) (hX.upI rfl) (fun g20 e20 hI hX => ?_)
          refine ev_ic f_X11_refuse (nx := 6) (v := -1) rfl (by decide) rfl ?_
          refine ev_retK1 f_X11_refuse rfl rfl rfl ?_
          exact ev_ret f_X11_clearBeats rfl rfl rfl ⟨_, _, _, rfl, hI, hX, ⟨_, rfl, (by decide : ((-1):Int) ≤ ((-1):Int32).toInt), (Int.le_trans (by decide : ((-1):Int32).toInt ≤ ((-1):Int)) (by decide : ((-1):Int) ≤ 12)), (show ∀ (u : Nat) (D : s_D), gr 0 6 = .ref u → t_VL gr u → t_CV gi gl u D → t_Cb D → ((0 ≤ ar1.toInt ∧ ar1.toInt < D 0 ∧ 0 ≤ ar2.toInt ∧ ar2.toInt < D 0) → ((-1) : Int) = s_cl D ar1.toInt ar2.toInt 13 0) ∧ (¬ (0 ≤ ar1.toInt ∧ ar1.toInt < D 0 ∧ 0 ≤ ar2.toInt ∧ ar2.toInt < D 0) → ((-1) : Int) = -1) from (by
                                                            intro u D hu hl hc hb
                                                            have ha : a5 = u := Value.ref.inj (e5.symm.trans hu)
                                                            subst ha
                                                            have hm := hc.1.1
                                                            exact ⟨fun h => absurd h (by omega), fun _ => rfl⟩))⟩⟩
        · have r21 : ar2.toInt < (gi a5 0).toInt := Int32.lt_iff_toInt_lt.mp (t_nle h17)
          have u22 : ar2.toInt ≤ 5 := t_ltu (t_nle h17) u6 rfl
          refine ev_ic f_X11_isPort (nx := 16) (v := 1) rfl (by decide) rfl ?_
          refine ev_jmp f_X11_isPort (nx := 20) rfl rfl rfl ?_
          refine ev_retK1 f_X11_isPort rfl rfl rfl ?_
          refine ev_f f_X11_clearBeats (t1 := 16) (t2 := 22) rfl rfl rfl (by decide) ?_
          refine ev_ic f_X11_clearBeats (nx := 23) (v := 0) rfl (by decide) rfl ?_
          refine ev_loc f_X11_clearBeats (nx := 24) (lo' := [(3, .int 0), (0, .ref 0), (1, .int ar1), (2, .int ar2)]) rfl rfl rfl rfl ?_
          have L23 : ∀ (m23 : Nat) (y23_3 : Int32), 0 ≤ y23_3.toInt → y23_3.toInt ≤ 13 → (∀ (u : Nat) (D : s_D), gr 0 6 = .ref u → t_VL gr u → t_CV gi gl u D → t_Cb D → s_cl D ar1.toInt ar2.toInt 13 0 = s_cl D ar1.toInt ar2.toInt (13 - y23_3.toInt).toNat y23_3.toInt) → (13 - y23_3.toInt).toNat = m23 → x_Ev X (d + 6) n_X11_clearBeats 24 [(3, .int y23_3), (0, .ref 0), (1, .int ar1), (2, .int ar2)] [] (sh, gi, gl, gr) (t_PI wl_d_clearBeats sh gi gl gr (-1) 12 (Q_d_clearBeats gi gl gr ar1 ar2)) := by
            intro m23
            induction m23 using Nat.strongRecOn with
            | _ m23 ih23 =>
            intro y23_3 l23_3 u23_3 j23_0 hm23
            refine ev_loc f_X11_clearBeats (nx := 25) rfl rfl rfl rfl ?_
            refine ev_bp f_X11_clearBeats (nx := 27) (v := 12) rfl (by decide) rfl ?_
            refine ev_if f_X11_clearBeats (t1 := 64) (t2 := 30) rfl rfl rfl (fun h24 => ?_) (fun h24 => ?_)
            · have l25 : 13 ≤ y23_3.toInt := t_ltl h24 (by decide : (12:Int) ≤ (12:Int32).toInt) rfl
              refine ev_loc f_X11_clearBeats (nx := 65) rfl rfl rfl rfl ?_
              refine ev_bp f_X11_clearBeats (nx := 67) (v := 6) rfl (by decide) rfl ?_
              refine ev_inV2 f_X11_clearBeats (nx := 70) (lo2 := [(0, .ref 0), (1, .int 6)]) rfl rfl rfl rfl f_X11_refuse (hI.wf.s rfl) rfl rfl rfl rfl rfl ?_
              refine ev_loc f_X11_refuse (nx := 1) rfl rfl rfl rfl ?_
              refine ev_loc f_X11_refuse (nx := 2) rfl rfl rfl rfl ?_
              refine ev_putIT f_X11_refuse (nx := 5) rfl (hI.wf.s rfl) rfl rfl rfl (hI.put0 (hI.wf.s rfl) rfl rfl) (hX.upI rfl) (fun g26 e26 hI hX => ?_)
              refine ev_ic f_X11_refuse (nx := 6) (v := -1) rfl (by decide) rfl ?_
              refine ev_retK1 f_X11_refuse rfl rfl rfl ?_
              exact ev_ret f_X11_clearBeats rfl rfl rfl ⟨_, _, _, rfl, hI, hX, ⟨_, rfl, (by decide : ((-1):Int) ≤ ((-1):Int32).toInt), (Int.le_trans (by decide : ((-1):Int32).toInt ≤ ((-1):Int)) (by decide : ((-1):Int) ≤ 12)), (show ∀ (u : Nat) (D : s_D), gr 0 6 = .ref u → t_VL gr u → t_CV gi gl u D → t_Cb D → ((0 ≤ ar1.toInt ∧ ar1.toInt < D 0 ∧ 0 ≤ ar2.toInt ∧ ar2.toInt < D 0) → ((-1) : Int) = s_cl D ar1.toInt ar2.toInt 13 0) ∧ (¬ (0 ≤ ar1.toInt ∧ ar1.toInt < D 0 ∧ 0 ≤ ar2.toInt ∧ ar2.toInt < D 0) → ((-1) : Int) = -1) from (by
                                                            intro u D hu hl hc hb
                                                            have g1 := j23_0 u D hu hl hc hb
                                                            have ha : a5 = u := Value.ref.inj (e5.symm.trans hu)
                                                            subst ha
                                                            have hm := hc.1.1
                                                            refine ⟨fun _ => ?_, fun h => absurd (show _ from ⟨by omega, by omega, by omega, by omega⟩) h⟩
                                                            exact (s_cl_e g1 (by omega)).symm))⟩⟩
            · have u27 : y23_3.toInt ≤ 12 := t_leu (t_nlt h24) (by decide : (12:Int32).toInt ≤ (12:Int))
              refine ev_loc f_X11_clearBeats (nx := 31) rfl rfl rfl rfl ?_
              refine ev_getR f_X11_clearBeats (nx := 34) (v := .ref a5) rfl (hI.wf.s rfl) rfl rfl e5 rfl rfl ?_
              refine ev_loc f_X11_clearBeats (nx := 35) rfl rfl rfl rfl ?_
              refine ev_getR f_X11_clearBeats (nx := 38) (v := .ref a5) rfl (hI.wf.s rfl) rfl rfl e5 rfl rfl ?_
              refine ev_loc f_X11_clearBeats (nx := 39) rfl rfl rfl rfl ?_
              refine ev_loc f_X11_clearBeats (nx := 40) rfl rfl rfl rfl ?_
              refine ev_loc f_X11_clearBeats (nx := 41) rfl rfl rfl rfl ?_
              refine ev_inV4 f_X11_clearBeats (nx := 44) (lo2 := [(0, .ref a5), (1, .int ar1), (2, .int ar2), (3, .int y23_3)]) rfl rfl rfl rfl f_X5_bothHeard p5.1 rfl rfl rfl rfl rfl ?_
              refine ev_loc f_X5_bothHeard (nx := 1) rfl rfl rfl rfl ?_
              refine ev_loc f_X5_bothHeard (nx := 2) rfl rfl rfl rfl ?_
              refine ev_qL0 f_X5_bothHeard (nx := 5) (r := []) rfl rfl rfl rfl rfl rfl rfl (c_d_heardOf hI (a5) p5 (ar1)) rfl (fun w28 q28 => ?_)
              have q28 : ∀ D : s_D, t_VL gr a5 → t_CV gi gl a5 D → w28 = s_hd D ar1.toInt := q28
              refine ev_loc f_X5_bothHeard (nx := 6) rfl rfl rfl rfl ?_
              refine ev_loc f_X5_bothHeard (nx := 7) rfl rfl rfl rfl ?_
              refine ev_qL0 f_X5_bothHeard (nx := 10) (r := [.long w28]) rfl rfl rfl rfl rfl rfl rfl (c_d_heardOf hI (a5) p5 (ar2)) rfl (fun w29 q29 => ?_)
              have q29 : ∀ D : s_D, t_VL gr a5 → t_CV gi gl a5 D → w29 = s_hd D ar2.toInt := q29
              refine ev_loc f_X5_bothHeard (nx := 11) rfl rfl rfl rfl ?_
              refine ev_anyLE f_X5_bothHeard (nx := 12) rfl rfl rfl rfl (fun z30 e30 => ?_)
              refine ev_anyLE f_X5_bothHeard (nx := 13) rfl rfl rfl rfl (fun z31 e31 => ?_)
              refine ev_retK1 f_X5_bothHeard rfl rfl rfl ?_
              refine ev_ic f_X11_clearBeats (nx := 45) (v := -1) rfl (by decide) rfl ?_
              refine ev_qI0 f_X11_clearBeats (nx := 48) (r := []) rfl rfl rfl rfl rfl rfl rfl (c_d_countReadings hI (a5) p5 (z31) ((-1))) rfl (fun w32 l32 u32 q32 => ?_)
              have q32 : ∀ D : s_D, t_VL gr a5 → t_CV gi gl a5 D → t_Cb D → w32.toInt = s_ct D z31 (-1) := q32
              refine ev_ic f_X11_clearBeats (nx := 49) (v := 1) rfl (by decide) rfl ?_
              refine ev_if f_X11_clearBeats (t1 := 52) (t2 := 58) rfl rfl rfl (fun h33 => ?_) (fun h33 => ?_)
              · have u34 : w32.toInt ≤ 1 := t_equ h33 (by decide : (1:Int32).toInt ≤ (1:Int))
                have l35 : 1 ≤ w32.toInt := t_eql h33 (by decide : (1:Int) ≤ (1:Int32).toInt)
                refine ev_loc f_X11_clearBeats (nx := 53) rfl rfl rfl rfl ?_
                refine ev_loc f_X11_clearBeats (nx := 54) rfl rfl rfl rfl ?_
                refine ev_inV2 f_X11_clearBeats (nx := 57) (lo2 := [(0, .ref 0), (1, .int y23_3)]) rfl rfl rfl rfl f_X11_answer (hI.wf.s rfl) rfl rfl rfl rfl rfl ?_
                refine ev_loc f_X11_answer (nx := 1) rfl rfl rfl rfl ?_
                refine ev_ic f_X11_answer (nx := 2) (v := 0) rfl (by decide) rfl ?_
                refine ev_putIT f_X11_answer (nx := 5) rfl (hI.wf.s rfl) rfl rfl rfl (hI.put0 (hI.wf.s rfl) rfl rfl) (hX.upI rfl) (fun g36 e36 hI hX => ?_)
                refine ev_loc f_X11_answer (nx := 6) rfl rfl rfl rfl ?_
                refine ev_retK1 f_X11_answer rfl rfl rfl ?_
                exact ev_ret f_X11_clearBeats rfl rfl rfl ⟨_, _, _, rfl, hI, hX, ⟨_, rfl, (Int.le_trans (by decide : ((-1):Int) ≤ 0) l23_3), u27, (show ∀ (u : Nat) (D : s_D), gr 0 6 = .ref u → t_VL gr u → t_CV gi gl u D → t_Cb D → ((0 ≤ ar1.toInt ∧ ar1.toInt < D 0 ∧ 0 ≤ ar2.toInt ∧ ar2.toInt < D 0) → y23_3.toInt = s_cl D ar1.toInt ar2.toInt 13 0) ∧ (¬ (0 ≤ ar1.toInt ∧ ar1.toInt < D 0 ∧ 0 ≤ ar2.toInt ∧ ar2.toInt < D 0) → y23_3.toInt = -1) from (by
                                                            intro u D hu hl hc hb
                                                            have g1 := j23_0 u D hu hl hc hb
                                                            have ha : a5 = u := Value.ref.inj (e5.symm.trans hu)
                                                            subst ha
                                                            have hm := hc.1.1
                                                            refine ⟨fun _ => ?_, fun h => absurd (show _ from ⟨by omega, by omega, by omega, by omega⟩) h⟩
                                                            have hv := s_bw_e (q28 D hl hc) (q29 D hl hc) e30 e31
                                                            have hq := q32 D hl hc hb
                                                            rw [hv] at hq
                                                            exact (s_cl_f g1 (by omega) (hq.symm.trans (by have z1 : (1 : Int32).toInt = 1 := rfl; omega))).symm))⟩⟩
              · have r37 : w32.toInt ≠ 1 := fun e => h33 (Int32.toInt_inj.mp (e.trans (by decide : (1:Int) = (1 : Int32).toInt)))
                refine ev_incR f_X11_clearBeats (nx := 61) (c := 1) (l := 1) (u := 13) rfl rfl (by decide) (by decide) l23_3 u27 rfl rfl (by decide) (by decide) rfl (fun z38 e38 l38 u38 => ?_)
                refine ev_jmp f_X11_clearBeats (nx := 24) rfl rfl rfl ?_
                refine ev_sub (lo := [(3, .int z38), (0, .ref 0), (1, .int ar1), (2, .int ar2)]) rfl (t_sc rfl (t_sc rfl (t_sc rfl (t_sc rfl t_sn)))) ?_
                exact ih23 _ (by omega) (z38) (Int.le_trans (by decide : (0:Int) ≤ 1) l38) u38 (by
                                                            intro u D hu hl hc hb
                                                            have g1 := j23_0 u D hu hl hc hb
                                                            have ha : a5 = u := Value.ref.inj (e5.symm.trans hu)
                                                            subst ha
                                                            have hv := s_bw_e (q28 D hl hc) (q29 D hl hc) e30 e31
                                                            have hq := q32 D hl hc hb
                                                            rw [hv] at hq
                                                            exact s_cl_s g1 (by omega) (fun hh => absurd (hq.trans hh) (by have z1 : (1 : Int32).toInt = 1 := rfl; omega)) (by omega)) rfl
          refine ev_sub (lo := [(3, .int 0), (0, .ref 0), (1, .int ar1), (2, .int ar2)]) rfl (t_sc rfl (t_sc rfl (t_sc rfl (t_sc rfl t_sn)))) ?_
          exact L23 _ (0) (by decide : (0:Int) ≤ (0:Int32).toInt) (Int.le_trans (by decide : (0:Int32).toInt ≤ (0:Int)) (by decide : (0:Int) ≤ 13)) (fun u D hu hl hc hb => rfl) rfl
noncomputable def wl_e_clearBeats : List (Nat × Nat) := [(69, 2), (69, 29), (78, 9999), (79, 9999), (80, 9999)]
noncomputable def Q_e_clearBeats (gi : Nat → Nat → Int32) (gl : Nat → Nat → Int64) (gr : Nat → Nat → Value) (ar1 : Int32) (ar2 : Int32) : Int32 → (Nat → Nat → Int32) → (Nat → Nat → Int64) → (Nat → Nat → Value) → Prop := fun (v : Int32) (gi2 : Nat → Nat → Int32) (gl2 : Nat → Nat → Int64) (gr2 : Nat → Nat → Value) => ∀ D : s_D, t_ME 0 gi D → t_Cb D → ((0 ≤ ar1.toInt ∧ ar1.toInt < D 0 ∧ 0 ≤ ar2.toInt ∧ ar2.toInt < D 0) → v.toInt = s_cl D ar1.toInt ar2.toInt 13 0) ∧ (¬ (0 ≤ ar1.toInt ∧ ar1.toInt < D 0 ∧ 0 ≤ ar2.toInt ∧ ar2.toInt < D 0) → v.toInt = -1)
theorem c_e_clearBeats {X : x_Ext} {d : Nat} {sh : List (Nat ⊕ (Nat × Nat))} {gi : Nat → Nat → Int32} {gl : Nat → Nat → Int64} {gr : Nat → Nat → Value} (hI : t_I sh gi gr) (ar1 : Int32) (ar2 : Int32) : x_Me X (d + 5) n_X12_clearBeats [.ref 69, .int ar1, .int ar2] (sh, gi, gl, gr) (t_PI wl_e_clearBeats sh gi gl gr (-1) 12 (Q_e_clearBeats gi gl gr ar1 ar2)) := by
  have hX : t_X wl_e_clearBeats sh gi gl gr gi gl gr := t_X.rf
  refine me_i f_X12_clearBeats (hI.wf.s rfl) rfl rfl rfl ?_
  refine ev_loc f_X12_clearBeats (nx := 1) rfl rfl rfl rfl ?_
  refine ev_loc f_X12_clearBeats (nx := 2) rfl rfl rfl rfl ?_
  refine ev_inV2 f_X12_clearBeats (nx := 5) (lo2 := [(0, .ref 69), (1, .int ar1)]) rfl rfl rfl rfl f_X12_isPort (hI.wf.s rfl) rfl rfl rfl rfl rfl ?_
  refine ev_loc f_X12_isPort (nx := 1) rfl rfl rfl rfl ?_
  refine ev_if f_X12_isPort (t1 := 18) (t2 := 4) rfl rfl rfl (fun h1 => ?_) (fun h1 => ?_)
  · have u2 : ar1.toInt ≤ (-1) := t_ltu h1 (by decide : (0:Int32).toInt ≤ (0:Int)) rfl
    refine ev_ic f_X12_isPort (nx := 19) (v := 0) rfl (by decide) rfl ?_
    refine ev_retK1 f_X12_isPort rfl rfl rfl ?_
    refine ev_t f_X12_clearBeats (t1 := 16) (t2 := 8) rfl rfl rfl (by decide) ?_
    refine ev_loc f_X12_clearBeats (nx := 17) rfl rfl rfl rfl ?_
    refine ev_ic f_X12_clearBeats (nx := 18) (v := 1) rfl (by decide) rfl ?_
    refine ev_inV2 f_X12_clearBeats (nx := 21) (lo2 := [(0, .ref 69), (1, .int 1)]) rfl rfl rfl rfl f_X12_refuse (hI.wf.s rfl) rfl rfl rfl rfl rfl ?_
    refine ev_loc f_X12_refuse (nx := 1) rfl rfl rfl rfl ?_
    refine ev_loc f_X12_refuse (nx := 2) rfl rfl rfl rfl ?_
    refine ev_putIT f_X12_refuse (nx := 5) rfl (hI.wf.s rfl) rfl rfl rfl (hI.put0 (hI.wf.s rfl) rfl rfl) (hX.upI rfl) (fun g3 e3 hI hX => ?_)
    refine ev_ic f_X12_refuse (nx := 6) (v := -1) rfl (by decide) rfl ?_
    refine ev_retK1 f_X12_refuse rfl rfl rfl ?_
    exact ev_ret f_X12_clearBeats rfl rfl rfl ⟨_, _, _, rfl, hI, hX, ⟨_, rfl, (by decide : ((-1):Int) ≤ ((-1):Int32).toInt), (Int.le_trans (by decide : ((-1):Int32).toInt ≤ ((-1):Int)) (by decide : ((-1):Int) ≤ 12)), (show ∀ D : s_D, t_ME 0 gi D → t_Cb D → ((0 ≤ ar1.toInt ∧ ar1.toInt < D 0 ∧ 0 ≤ ar2.toInt ∧ ar2.toInt < D 0) → ((-1) : Int) = s_cl D ar1.toInt ar2.toInt 13 0) ∧ (¬ (0 ≤ ar1.toInt ∧ ar1.toInt < D 0 ∧ 0 ≤ ar2.toInt ∧ ar2.toInt < D 0) → ((-1) : Int) = -1) from (by
                                                            intro D hm hb
                                                            have h0 : (gi 70 0).toInt = D 0 := hm.1.1.1
                                                            exact ⟨fun h => absurd h (by omega), fun _ => rfl⟩))⟩⟩
  · have l4 : 0 ≤ ar1.toInt := t_lel (t_nlt h1) (by decide : (0:Int) ≤ (0:Int32).toInt)
    refine ev_loc f_X12_isPort (nx := 5) rfl rfl rfl rfl ?_
    refine ev_loc f_X12_isPort (nx := 6) rfl rfl rfl rfl ?_
    refine ev_getR f_X12_isPort (nx := 9) rfl (hI.wf.s rfl) rfl rfl (hI.wf.r rfl) rfl rfl ?_
    refine ev_ic f_X12_isPort (nx := 10) (v := 0) rfl (by decide) rfl ?_
    obtain ⟨l5, u5⟩ := hI.ab (by decide +kernel : t_abr 70 0 0 0 6 = true) (Nat.le_refl _) (Nat.le_refl _)
    refine ev_ialdv f_X12_isPort (nx := 11) (w := (gi 70 0)) rfl (hI.wf.s rfl) (by decide) (rfl : (0 : Int32).toNatClampNeg = 0) (by decide) rfl rfl ?_
    refine ev_if f_X12_isPort (t1 := 18) (t2 := 14) rfl rfl rfl (fun h6 => ?_) (fun h6 => ?_)
    · have r7 : (gi 70 0).toInt ≤ ar1.toInt := Int32.le_iff_toInt_le.mp h6
      refine ev_ic f_X12_isPort (nx := 19) (v := 0) rfl (by decide) rfl ?_
      refine ev_retK1 f_X12_isPort rfl rfl rfl ?_
      refine ev_t f_X12_clearBeats (t1 := 16) (t2 := 8) rfl rfl rfl (by decide) ?_
      refine ev_loc f_X12_clearBeats (nx := 17) rfl rfl rfl rfl ?_
      refine ev_ic f_X12_clearBeats (nx := 18) (v := 1) rfl (by decide) rfl ?_
      refine ev_inV2 f_X12_clearBeats (nx := 21) (lo2 := [(0, .ref 69), (1, .int 1)]) rfl rfl rfl rfl f_X12_refuse (hI.wf.s rfl) rfl rfl rfl rfl rfl ?_
      refine ev_loc f_X12_refuse (nx := 1) rfl rfl rfl rfl ?_
      refine ev_loc f_X12_refuse (nx := 2) rfl rfl rfl rfl ?_
      refine ev_putIT f_X12_refuse (nx := 5) rfl (hI.wf.s rfl) rfl rfl rfl (hI.put0 (hI.wf.s rfl) rfl rfl) (hX.upI rfl) (fun g8 e8 hI hX => ?_)
      refine ev_ic f_X12_refuse (nx := 6) (v := -1) rfl (by decide) rfl ?_
      refine ev_retK1 f_X12_refuse rfl rfl rfl ?_
      exact ev_ret f_X12_clearBeats rfl rfl rfl ⟨_, _, _, rfl, hI, hX, ⟨_, rfl, (by decide : ((-1):Int) ≤ ((-1):Int32).toInt), (Int.le_trans (by decide : ((-1):Int32).toInt ≤ ((-1):Int)) (by decide : ((-1):Int) ≤ 12)), (show ∀ D : s_D, t_ME 0 gi D → t_Cb D → ((0 ≤ ar1.toInt ∧ ar1.toInt < D 0 ∧ 0 ≤ ar2.toInt ∧ ar2.toInt < D 0) → ((-1) : Int) = s_cl D ar1.toInt ar2.toInt 13 0) ∧ (¬ (0 ≤ ar1.toInt ∧ ar1.toInt < D 0 ∧ 0 ≤ ar2.toInt ∧ ar2.toInt < D 0) → ((-1) : Int) = -1) from (by
                                                            intro D hm hb
                                                            have h0 : (gi 70 0).toInt = D 0 := hm.1.1.1
                                                            exact ⟨fun h => absurd h (by omega), fun _ => rfl⟩))⟩⟩
    · have r9 : ar1.toInt < (gi 70 0).toInt := Int32.lt_iff_toInt_lt.mp (t_nle h6)
      have u10 : ar1.toInt ≤ 5 := t_ltu (t_nle h6) u5 rfl
      have l11 : 1 ≤ (gi 70 0).toInt := t_ltl (t_nle h6) l4 rfl
      refine ev_ic f_X12_isPort (nx := 15) (v := 1) rfl (by decide) rfl ?_
      refine ev_jmp f_X12_isPort (nx := 19) rfl rfl rfl ?_
      refine ev_retK1 f_X12_isPort rfl rfl rfl ?_
      refine ev_f f_X12_clearBeats (t1 := 16) (t2 := 8) rfl rfl rfl (by decide) ?_
      refine ev_loc f_X12_clearBeats (nx := 9) rfl rfl rfl rfl ?_
      refine ev_loc f_X12_clearBeats (nx := 10) rfl rfl rfl rfl ?_
      refine ev_inV2 f_X12_clearBeats (nx := 13) (lo2 := [(0, .ref 69), (1, .int ar2)]) rfl rfl rfl rfl f_X12_isPort (hI.wf.s rfl) rfl rfl rfl rfl rfl ?_
      refine ev_loc f_X12_isPort (nx := 1) rfl rfl rfl rfl ?_
      refine ev_if f_X12_isPort (t1 := 18) (t2 := 4) rfl rfl rfl (fun h12 => ?_) (fun h12 => ?_)
      · have u13 : ar2.toInt ≤ (-1) := t_ltu h12 (by decide : (0:Int32).toInt ≤ (0:Int)) rfl
        refine ev_ic f_X12_isPort (nx := 19) (v := 0) rfl (by decide) rfl ?_
        refine ev_retK1 f_X12_isPort rfl rfl rfl ?_
        refine ev_t f_X12_clearBeats (t1 := 16) (t2 := 22) rfl rfl rfl (by decide) ?_
        refine ev_loc f_X12_clearBeats (nx := 17) rfl rfl rfl rfl ?_
        refine ev_ic f_X12_clearBeats (nx := 18) (v := 1) rfl (by decide) rfl ?_
        refine ev_inV2 f_X12_clearBeats (nx := 21) (lo2 := [(0, .ref 69), (1, .int 1)]) rfl rfl rfl rfl f_X12_refuse (hI.wf.s rfl) rfl rfl rfl rfl rfl ?_
        refine ev_loc f_X12_refuse (nx := 1) rfl rfl rfl rfl ?_
        refine ev_loc f_X12_refuse (nx := 2) rfl rfl rfl rfl ?_
        refine ev_putIT f_X12_refuse (nx := 5) rfl (hI.wf.s rfl) rfl rfl rfl (hI.put0 (hI.wf.s rfl) rfl rfl) (hX.upI rfl) (fun g14 e14 hI hX => ?_)
        refine ev_ic f_X12_refuse (nx := 6) (v := -1) rfl (by decide) rfl ?_
        refine ev_retK1 f_X12_refuse rfl rfl rfl ?_
        exact ev_ret f_X12_clearBeats rfl rfl rfl ⟨_, _, _, rfl, hI, hX, ⟨_, rfl, (by decide : ((-1):Int) ≤ ((-1):Int32).toInt), (Int.le_trans (by decide : ((-1):Int32).toInt ≤ ((-1):Int)) (by decide : ((-1):Int) ≤ 12)), (show ∀ D : s_D, t_ME 0 gi D → t_Cb D → ((0 ≤ ar1.toInt ∧ ar1.toInt < D 0 ∧ 0 ≤ ar2.toInt ∧ ar2.toInt < D 0) → ((-1) : Int) = s_cl D ar1.toInt ar2.toInt 13 0) ∧ (¬ (0 ≤ ar1.toInt ∧ ar1.toInt < D 0 ∧ 0 ≤ ar2.toInt ∧ ar2.toInt < D 0) → ((-1) : Int) = -1) from (by
                                                            intro D hm hb
                                                            have h0 : (gi 70 0).toInt = D 0 := hm.1.1.1
                                                            exact ⟨fun h => absurd h (by omega), fun _ => rfl⟩))⟩⟩
      · have l15 : 0 ≤ ar2.toInt := t_lel (t_nlt h12) (by decide : (0:Int) ≤ (0:Int32).toInt)
        refine ev_loc f_X12_isPort (nx := 5) rfl rfl rfl rfl ?_
        refine ev_loc f_X12_isPort (nx := 6) rfl rfl rfl rfl ?_
        refine ev_getR f_X12_isPort (nx := 9) rfl (hI.wf.s rfl) rfl rfl (hI.wf.r rfl) rfl rfl ?_
        refine ev_ic f_X12_isPort (nx := 10) (v := 0) rfl (by decide) rfl ?_
        refine ev_ialdv f_X12_isPort (nx := 11) (w := (gi 70 0)) rfl (hI.wf.s rfl) (by decide) (rfl : (0 : Int32).toNatClampNeg = 0) (by decide) rfl rfl ?_
        refine ev_if f_X12_isPort (t1 := 18) (t2 := 14) rfl rfl rfl (fun h17 => ?_) (fun h17 => ?_)
        · have r18 : (gi 70 0).toInt ≤ ar2.toInt := Int32.le_iff_toInt_le.mp h17
          have l19 : 1 ≤ ar2.toInt := t_lel h17 l11
          refine ev_ic f_X12_isPort (nx := 19) (v := 0) rfl (by decide) rfl ?_
          refine ev_retK1 f_X12_isPort rfl rfl rfl ?_
          refine ev_t f_X12_clearBeats (t1 := 16) (t2 := 22) rfl rfl rfl (by decide) ?_
          refine ev_loc f_X12_clearBeats (nx := 17) rfl rfl rfl rfl ?_
          refine ev_ic f_X12_clearBeats (nx := 18) (v := 1) rfl (by decide) rfl ?_
          refine ev_inV2 f_X12_clearBeats (nx := 21) (lo2 := [(0, .ref 69), (1, .int 1)]) rfl rfl rfl rfl f_X12_refuse (hI.wf.s rfl) rfl rfl rfl rfl rfl ?_
          refine ev_loc f_X12_refuse (nx := 1) rfl rfl rfl rfl ?_
          refine ev_loc f_X12_refuse (nx := 2) rfl rfl rfl rfl ?_
          refine ev_putIT f_X12_refuse (nx := 5) rfl (hI.wf.s rfl) rfl rfl rfl (hI.put0 (hI.wf.s rfl) rfl rfl) (hX.upI rfl) (fun g20 e20 hI hX => ?_)
          refine ev_ic f_X12_refuse (nx := 6) (v := -1) rfl (by decide) rfl ?_
          refine ev_retK1 f_X12_refuse rfl rfl rfl ?_
          exact ev_ret f_X12_clearBeats rfl rfl rfl ⟨_, _, _, rfl, hI, hX, ⟨_, rfl, (by decide : ((-1):Int) ≤ ((-1):Int32).toInt), (Int.le_trans (by decide : ((-1):Int32).toInt ≤ ((-1):Int)) (by decide : ((-1):Int) ≤ 12)), (show ∀ D : s_D, t_ME 0 gi D → t_Cb D → ((0 ≤ ar1.toInt ∧ ar1.toInt < D 0 ∧ 0 ≤ ar2.toInt ∧ ar2.toInt < D 0) → ((-1) : Int) = s_cl D ar1.toInt ar2.toInt 13 0) ∧ (¬ (0 ≤ ar1.toInt ∧ ar1.toInt < D 0 ∧ 0 ≤ ar2.toInt ∧ ar2.toInt < D 0) → ((-1) : Int) = -1) from (by
                                                            intro D hm hb
                                                            have h0 : (gi 70 0).toInt = D 0 := hm.1.1.1
                                                            exact ⟨fun h => absurd h (by omega), fun _ => rfl⟩))⟩⟩
        · have r21 : ar2.toInt < (gi 70 0).toInt := Int32.lt_iff_toInt_lt.mp (t_nle h17)
          have u22 : ar2.toInt ≤ 5 := t_ltu (t_nle h17) u5 rfl
          refine ev_ic f_X12_isPort (nx := 15) (v := 1) rfl (by decide) rfl ?_
          refine ev_jmp f_X12_isPort (nx := 19) rfl rfl rfl ?_
          refine ev_retK1 f_X12_isPort rfl rfl rfl ?_
          refine ev_f f_X12_clearBeats (t1 := 16) (t2 := 22) rfl rfl rfl (by decide) ?_
          refine ev_ic f_X12_clearBeats (nx := 23) (v := 0) rfl (by decide) rfl ?_
          refine ev_loc f_X12_clearBeats (nx := 24) (lo' := [(3, .int 0), (0, .ref 69), (1, .int ar1), (2, .int ar2)]) rfl rfl rfl rfl ?_
          have L23 : ∀ (m23 : Nat) (gi23 : Nat → Nat → Int32) (gl23 : Nat → Nat → Int64) (gr23 : Nat → Nat → Value) (y23_3 : Int32), t_I sh gi23 gr23 → t_X wl_e_clearBeats sh gi gl gr gi23 gl23 gr23 → 0 ≤ y23_3.toInt → y23_3.toInt ≤ 13 → gi23 70 0 = (gi 70 0) → (∀ j, gi23 70 j = gi 70 j) → (∀ D : s_D, t_ME 0 gi D → t_Cb D → s_cl D ar1.toInt ar2.toInt 13 0 = s_cl D ar1.toInt ar2.toInt (13 - y23_3.toInt).toNat y23_3.toInt) → (13 - y23_3.toInt).toNat = m23 → x_Ev X (d + 5) n_X12_clearBeats 24 [(3, .int y23_3), (0, .ref 69), (1, .int ar1), (2, .int ar2)] [] (sh, gi23, gl23, gr23) (t_PI wl_e_clearBeats sh gi gl gr (-1) 12 (Q_e_clearBeats gi gl gr ar1 ar2)) := by
            intro m23
            induction m23 using Nat.strongRecOn with
            | _ m23 ih23 =>
            intro gi23 gl23 gr23 y23_3 hI hX l23_3 u23_3 c23_0 j23_0 j23_1 hm23
            refine ev_loc f_X12_clearBeats (nx := 25) rfl rfl rfl rfl ?_
            refine ev_bp f_X12_clearBeats (nx := 27) (v := 12) rfl (by decide) rfl ?_
            refine ev_if f_X12_clearBeats (t1 := 67) (t2 := 30) rfl rfl rfl (fun h24 => ?_) (fun h24 => ?_)
            · have l25 : 13 ≤ y23_3.toInt := t_ltl h24 (by decide : (12:Int) ≤ (12:Int32).toInt) rfl
              refine ev_loc f_X12_clearBeats (nx := 68) rfl rfl rfl rfl ?_
              refine ev_bp f_X12_clearBeats (nx := 70) (v := 6) rfl (by decide) rfl ?_
              refine ev_inV2 f_X12_clearBeats (nx := 73) (lo2 := [(0, .ref 69), (1, .int 6)]) rfl rfl rfl rfl f_X12_refuse (hI.wf.s rfl) rfl rfl rfl rfl rfl ?_
              refine ev_loc f_X12_refuse (nx := 1) rfl rfl rfl rfl ?_
              refine ev_loc f_X12_refuse (nx := 2) rfl rfl rfl rfl ?_
              refine ev_putIT f_X12_refuse (nx := 5) rfl (hI.wf.s rfl) rfl rfl rfl (hI.put0 (hI.wf.s rfl) rfl rfl) (hX.upI rfl) (fun g26 e26 hI hX => ?_)
              refine ev_ic f_X12_refuse (nx := 6) (v := -1) rfl (by decide) rfl ?_
              refine ev_retK1 f_X12_refuse rfl rfl rfl ?_
              exact ev_ret f_X12_clearBeats rfl rfl rfl ⟨_, _, _, rfl, hI, hX, ⟨_, rfl, (by decide : ((-1):Int) ≤ ((-1):Int32).toInt), (Int.le_trans (by decide : ((-1):Int32).toInt ≤ ((-1):Int)) (by decide : ((-1):Int) ≤ 12)), (show ∀ D : s_D, t_ME 0 gi D → t_Cb D → ((0 ≤ ar1.toInt ∧ ar1.toInt < D 0 ∧ 0 ≤ ar2.toInt ∧ ar2.toInt < D 0) → ((-1) : Int) = s_cl D ar1.toInt ar2.toInt 13 0) ∧ (¬ (0 ≤ ar1.toInt ∧ ar1.toInt < D 0 ∧ 0 ≤ ar2.toInt ∧ ar2.toInt < D 0) → ((-1) : Int) = -1) from (by
                                                            intro D hm hb
                                                            have g1 := j23_1 D hm hb
                                                            have h00 : (gi 70 0).toInt = D 0 := hm.1.1.1
                                                            refine ⟨fun _ => ?_, fun h => absurd (show _ from ⟨by omega, by omega, by omega, by omega⟩) h⟩
                                                            exact (s_cl_e g1 (by omega)).symm))⟩⟩
            · have u27 : y23_3.toInt ≤ 12 := t_leu (t_nlt h24) (by decide : (12:Int32).toInt ≤ (12:Int))
              refine ev_loc f_X12_clearBeats (nx := 31) rfl rfl rfl rfl ?_
              refine ev_loc f_X12_clearBeats (nx := 32) rfl rfl rfl rfl ?_
              refine ev_loc f_X12_clearBeats (nx := 33) rfl rfl rfl rfl ?_
              refine ev_qL0 f_X12_clearBeats (nx := 36) (r := [.ref 69]) rfl rfl rfl rfl rfl rfl rfl (c_n_heardOf hI (ar1) l4 u10) rfl (fun w28 q28 => ?_)
              have q28 : (0 ≤ w28.toInt ∧ w28.toInt < 8589934592) ∧ ∀ D : s_D, t_ME 0 gi23 D → ar1.toInt < D 0 → w28 = s_ec (s_so D ar1.toNatClampNeg) (D 7) := q28
              refine ev_loc f_X12_clearBeats (nx := 37) rfl rfl rfl rfl ?_
              refine ev_loc f_X12_clearBeats (nx := 38) rfl rfl rfl rfl ?_
              refine ev_qL0 f_X12_clearBeats (nx := 41) (r := [.long w28, .ref 69]) rfl rfl rfl rfl rfl rfl rfl (c_n_heardOf hI (ar2) l15 u22) rfl (fun w29 q29 => ?_)
              have q29 : (0 ≤ w29.toInt ∧ w29.toInt < 8589934592) ∧ ∀ D : s_D, t_ME 0 gi23 D → ar2.toInt < D 0 → w29 = s_ec (s_so D ar2.toNatClampNeg) (D 7) := q29
              refine ev_loc f_X12_clearBeats (nx := 42) rfl rfl rfl rfl ?_
              refine ev_anyLE f_X12_clearBeats (nx := 43) rfl rfl rfl rfl (fun z30 e30 => ?_)
              refine ev_anyLE f_X12_clearBeats (nx := 44) rfl rfl rfl rfl (fun z31 e31 => ?_)
              refine ev_qN f_X12_clearBeats (nx := 47) (r := []) rfl rfl rfl rfl rfl rfl rfl (c_n_findsReadings hI (z31)) rfl hX rfl (fun gi32 gl32 gr32 hI hX hC32 q32 => ?_)
              have q32 : (gi32 69 29).toInt ≤ 474 ∧ (∀ j, gi32 70 j = gi23 70 j) ∧ (∀ D : s_D, t_ME 0 gi23 D → t_Cb D → (gi32 69 29).toInt = s_ct D z31 (-1)) := q32
              refine ev_loc f_X12_clearBeats (nx := 48) rfl rfl rfl rfl ?_
              refine ev_getI f_X12_clearBeats (nx := 51) rfl (hI.wf.s rfl) rfl rfl rfl ?_
              obtain ⟨l33, u33⟩ := hI.b (hI.wf.s (k := 69) rfl) (t_bdK rfl : t_bd 11 29 = some (0, 500))
              refine ev_ic f_X12_clearBeats (nx := 52) (v := 1) rfl (by decide) rfl ?_
              refine ev_if f_X12_clearBeats (t1 := 55) (t2 := 61) rfl rfl rfl (fun h34 => ?_) (fun h34 => ?_)
              · have u35 : (gi32 69 29).toInt ≤ 1 := t_equ h34 (by decide : (1:Int32).toInt ≤ (1:Int))
                have l36 : 1 ≤ (gi32 69 29).toInt := t_eql h34 (by decide : (1:Int) ≤ (1:Int32).toInt)
                refine ev_loc f_X12_clearBeats (nx := 56) rfl rfl rfl rfl ?_
                refine ev_loc f_X12_clearBeats (nx := 57) rfl rfl rfl rfl ?_
                refine ev_inV2 f_X12_clearBeats (nx := 60) (lo2 := [(0, .ref 69), (1, .int y23_3)]) rfl rfl rfl rfl f_X12_gives (hI.wf.s rfl) rfl rfl rfl rfl rfl ?_
                refine ev_loc f_X12_gives (nx := 1) rfl rfl rfl rfl ?_
                refine ev_ic f_X12_gives (nx := 2) (v := 0) rfl (by decide) rfl ?_
                refine ev_putIT f_X12_gives (nx := 5) rfl (hI.wf.s rfl) rfl rfl rfl (hI.put0 (hI.wf.s rfl) rfl rfl) (hX.upI rfl) (fun g37 e37 hI hX => ?_)
                refine ev_loc f_X12_gives (nx := 6) rfl rfl rfl rfl ?_
                refine ev_retK1 f_X12_gives rfl rfl rfl ?_
                exact ev_ret f_X12_clearBeats rfl rfl rfl ⟨_, _, _, rfl, hI, hX, ⟨_, rfl, (Int.le_trans (by decide : ((-1):Int) ≤ 0) l23_3), u27, (show ∀ D : s_D, t_ME 0 gi D → t_Cb D → ((0 ≤ ar1.toInt ∧ ar1.toInt < D 0 ∧ 0 ≤ ar2.toInt ∧ ar2.toInt < D 0) → y23_3.toInt = s_cl D ar1.toInt ar2.toInt 13 0) ∧ (¬ (0 ≤ ar1.toInt ∧ ar1.toInt < D 0 ∧ 0 ≤ ar2.toInt ∧ ar2.toInt < D 0) → y23_3.toInt = -1) from (by
                                                            intro D hm hb
                                                            have g1 := j23_1 D hm hb
                                                            have h00 : (gi 70 0).toInt = D 0 := hm.1.1.1
                                                            refine ⟨fun _ => ?_, fun h => absurd (show _ from ⟨by omega, by omega, by omega, by omega⟩) h⟩
                                                            have hmN : t_ME 0 gi23 D := hm.mv hb (fun j _ _ _ => j23_0 (0 + j))
                                                            have h0 : (gi 70 0).toInt = D 0 := hm.1.1.1
                                                            have hw28 : w28 = s_hd D ar1.toInt := (q28.2 D hmN (by omega)).trans ((s_hd_i (D := D) (p := ar1.toInt) (by omega) (by omega)).trans (by rw [show ar1.toInt.toNat = ar1.toNatClampNeg from (by have := t_clamp (i := ar1) (by omega); omega)])).symm
                                                            have hw29 : w29 = s_hd D ar2.toInt := (q29.2 D hmN (by omega)).trans ((s_hd_i (D := D) (p := ar2.toInt) (by omega) (by omega)).trans (by rw [show ar2.toInt.toNat = ar2.toNatClampNeg from (by have := t_clamp (i := ar2) (by omega); omega)])).symm
                                                            have hv := s_bw_e hw28 hw29 e30 e31
                                                            have hq := q32.2.2 D hmN hb
                                                            rw [hv] at hq
                                                            have ff38 : (g37 69 29).toInt = (gi32 69 29).toInt := congrArg Int32.toInt ((by rw [e37]; exact x_up2_off (Or.inr (by decide)) : g37 69 29 = gi32 69 29).trans rfl)
                                                            exact (s_cl_f g1 (by omega) (hq.symm.trans (by have z1 : (1 : Int32).toInt = 1 := rfl; omega))).symm))⟩⟩
              · have r39 : (gi32 69 29).toInt ≠ 1 := fun e => h34 (Int32.toInt_inj.mp (e.trans (by decide : (1:Int) = (1 : Int32).toInt)))
                refine ev_incR f_X12_clearBeats (nx := 64) (c := 1) (l := 1) (u := 13) rfl rfl (by decide) (by decide) l23_3 u27 rfl rfl (by decide) (by decide) rfl (fun z40 e40 l40 u40 => ?_)
                refine ev_jmp f_X12_clearBeats (nx := 24) rfl rfl rfl ?_
                refine ev_sub (lo := [(3, .int z40), (0, .ref 69), (1, .int ar1), (2, .int ar2)]) rfl (t_sc rfl (t_sc rfl (t_sc rfl (t_sc rfl t_sn)))) ?_
                exact ih23 _ (by omega) gi32 gl32 gr32 (z40) hI hX  (Int.le_trans (by decide : (0:Int) ≤ 1) l40) u40 ((hC32.1 70 0 rfl).1.trans c23_0) (fun j => (congrFun ((funext (fun j => (hC32.1 70 j rfl).1) : gi32 70 = gi23 70)) j).trans (j23_0 j)) (by
                                                            intro D hm hb
                                                            have g1 := j23_1 D hm hb
                                                            have hmN : t_ME 0 gi23 D := hm.mv hb (fun j _ _ _ => j23_0 (0 + j))
                                                            have h0 : (gi 70 0).toInt = D 0 := hm.1.1.1
                                                            have hw28 : w28 = s_hd D ar1.toInt := (q28.2 D hmN (by omega)).trans ((s_hd_i (D := D) (p := ar1.toInt) (by omega) (by omega)).trans (by rw [show ar1.toInt.toNat = ar1.toNatClampNeg from (by have := t_clamp (i := ar1) (by omega); omega)])).symm
                                                            have hw29 : w29 = s_hd D ar2.toInt := (q29.2 D hmN (by omega)).trans ((s_hd_i (D := D) (p := ar2.toInt) (by omega) (by omega)).trans (by rw [show ar2.toInt.toNat = ar2.toNatClampNeg from (by have := t_clamp (i := ar2) (by omega); omega)])).symm
                                                            have hv := s_bw_e hw28 hw29 e30 e31
                                                            have hq := q32.2.2 D hmN hb
                                                            rw [hv] at hq
                                                            exact s_cl_s g1 (by omega) (fun hh => absurd (hq.trans hh) (by have z1 : (1 : Int32).toInt = 1 := rfl; omega)) (by omega)) rfl
          refine ev_sub (lo := [(3, .int 0), (0, .ref 69), (1, .int ar1), (2, .int ar2)]) rfl (t_sc rfl (t_sc rfl (t_sc rfl (t_sc rfl t_sn)))) ?_
          exact L23 _ gi gl gr (0) hI hX  (by decide : (0:Int) ≤ (0:Int32).toInt) (Int.le_trans (by decide : (0:Int32).toInt ≤ (0:Int)) (by decide : (0:Int) ≤ 13)) rfl (fun _ => rfl) (fun D hm hb => rfl) rfl
noncomputable def wl_d_doubt : List (Nat × Nat) := [(0, 0), (0, 1), (0, 2)]
noncomputable def Q_d_doubt (gi : Nat → Nat → Int32) (gl : Nat → Nat → Int64) (gr : Nat → Nat → Value) (ar1 : Int64) (ar2 : Int32) : Int32 → (Nat → Nat → Int32) → (Nat → Nat → Int64) → (Nat → Nat → Value) → Prop := fun (v : Int32) (gi2 : Nat → Nat → Int32) (gl2 : Nat → Nat → Int64) (gr2 : Nat → Nat → Value) => ∀ (u : Nat) (D : s_D), gr 0 6 = .ref u → t_VL gr u → t_CV gi gl u D → t_Cb D → ((1 ≤ ar1.toInt ∧ 0 ≤ ar2.toInt ∧ ar2.toInt < D 0 ∧ ¬ s_ct D ar1 (-1) = 0) → v.toInt = 1) ∧ (¬ (1 ≤ ar1.toInt ∧ 0 ≤ ar2.toInt ∧ ar2.toInt < D 0 ∧ ¬ s_ct D ar1 (-1) = 0) → v.toInt = 0)
theorem c_d_doubt {X : x_Ext} {d : Nat} {sh : List (Nat ⊕ (Nat × Nat))} {gi : Nat → Nat → Int32} {gl : Nat → Nat → Int64} {gr : Nat → Nat → Value} (hI : t_I sh gi gr) (ar1 : Int64) (ar2 : Int32) : x_Me X (d + 6) n_X11_doubt [.ref 0, .long ar1, .int ar2] (sh, gi, gl, gr) (t_PI wl_d_doubt sh gi gl gr 0 1 (Q_d_doubt gi gl gr ar1 ar2)) := by
  have hX : t_X wl_d_doubt sh gi gl gr gi gl gr := t_X.rf
  refine me_i f_X11_doubt (hI.wf.s rfl) rfl rfl rfl ?_
  refine ev_loc f_X11_doubt (nx := 1) rfl rfl rfl rfl ?_
  refine ev_lc f_X11_doubt (nx := 2) (v := 1) rfl (by decide) rfl ?_
  refine ev_anyIE f_X11_doubt (nx := 3) rfl rfl rfl rfl (fun z1 e1 => ?_)
  refine ev_if f_X11_doubt (t1 := 14) (t2 := 6) rfl rfl rfl (fun h2 => ?_) (fun h2 => ?_)
  · have u3 : z1.toInt ≤ (-1) := t_ltu h2 (by decide : (0:Int32).toInt ≤ (0:Int)) rfl
    refine ev_loc f_X11_doubt (nx := 15) rfl rfl rfl rfl ?_
    refine ev_ic f_X11_doubt (nx := 16) (v := 1) rfl (by decide) rfl ?_
    refine ev_inV2 f_X11_doubt (nx := 19) (lo2 := [(0, .ref 0), (1, .int 1)]) rfl rfl rfl rfl f_X11_deny (hI.wf.s rfl) rfl rfl rfl rfl rfl ?_
    refine ev_loc f_X11_deny (nx := 1) rfl rfl rfl rfl ?_
    refine ev_loc f_X11_deny (nx := 2) rfl rfl rfl rfl ?_
    refine ev_putIT f_X11_deny (nx := 5) rfl (hI.wf.s rfl) rfl rfl rfl (hI.put0 (hI.wf.s rfl) rfl rfl) (hX.upI rfl) (fun g4 e4 hI hX => ?_)
    refine ev_ic f_X11_deny (nx := 6) (v := 0) rfl (by decide) rfl ?_
    refine ev_retK1 f_X11_deny rfl rfl rfl ?_
    exact ev_ret f_X11_doubt rfl rfl rfl ⟨_, _, _, rfl, hI, hX, ⟨_, rfl, (by decide : (0:Int) ≤ (0:Int32).toInt), (Int.le_trans (by decide : (0:Int32).toInt ≤ (0:Int)) (by decide : (0:Int) ≤ 1)), (show ∀ (u : Nat) (D : s_D), gr 0 6 = .ref u → t_VL gr u → t_CV gi gl u D → t_Cb D → ((1 ≤ ar1.toInt ∧ 0 ≤ ar2.toInt ∧ ar2.toInt < D 0 ∧ ¬ s_ct D ar1 (-1) = 0) → (0 : Int) = 1) ∧ (¬ (1 ≤ ar1.toInt ∧ 0 ≤ ar2.toInt ∧ ar2.toInt < D 0 ∧ ¬ s_ct D ar1 (-1) = 0) → (0 : Int) = 0) from (by
                                                            intro u D hu hl hc hb
                                                            have hm := hc.1.1
                                                            have hlt := (t_lt1n e1 h2)
                                                            exact ⟨fun h => absurd h (by omega), fun _ => rfl⟩))⟩⟩
  · have l5 : 0 ≤ z1.toInt := t_lel (t_nlt h2) (by decide : (0:Int) ≤ (0:Int32).toInt)
    refine ev_loc f_X11_doubt (nx := 7) rfl rfl rfl rfl ?_
    refine ev_loc f_X11_doubt (nx := 8) rfl rfl rfl rfl ?_
    refine ev_inV2 f_X11_doubt (nx := 11) (lo2 := [(0, .ref 0), (1, .int ar2)]) rfl rfl rfl rfl f_X11_isPort (hI.wf.s rfl) rfl rfl rfl rfl rfl ?_
    refine ev_loc f_X11_isPort (nx := 1) rfl rfl rfl rfl ?_
    refine ev_if f_X11_isPort (t1 := 19) (t2 := 4) rfl rfl rfl (fun h6 => ?_) (fun h6 => ?_)
    · have u7 : ar2.toInt ≤ (-1) := t_ltu h6 (by decide : (0:Int32).toInt ≤ (0:Int)) rfl
      refine ev_ic f_X11_isPort (nx := 20) (v := 0) rfl (by decide) rfl ?_
      refine ev_retK1 f_X11_isPort rfl rfl rfl ?_
      refine ev_t f_X11_doubt (t1 := 14) (t2 := 20) rfl rfl rfl (by decide) ?_
      refine ev_loc f_X11_doubt (nx := 15) rfl rfl rfl rfl ?_
      refine ev_ic f_X11_doubt (nx := 16) (v := 1) rfl (by decide) rfl ?_
      refine ev_inV2 f_X11_doubt (nx := 19) (lo2 := [(0, .ref 0), (1, .int 1)]) rfl rfl rfl rfl f_X11_deny (hI.wf.s rfl) rfl rfl rfl rfl rfl ?_
      refine ev_loc f_X11_deny (nx := 1) rfl rfl rfl rfl ?_
      refine ev_loc f_X11_deny (nx := 2) rfl rfl rfl rfl ?_
      refine ev_putIT f_X11_deny (nx := 5) rfl (hI.wf.s rfl) rfl rfl rfl (hI.put0 (hI.wf.s rfl) rfl rfl) (hX.upI rfl) (fun g8 e8 hI hX => ?_)
      refine ev_ic f_X11_deny (nx := 6) (v := 0) rfl (by decide) rfl ?_
      refine ev_retK1 f_X11_deny rfl rfl rfl ?_
      exact ev_ret f_X11_doubt rfl rfl rfl ⟨_, _, _, rfl, hI, hX, ⟨_, rfl, (by decide : (0:Int) ≤ (0:Int32).toInt), (Int.le_trans (by decide : (0:Int32).toInt ≤ (0:Int)) (by decide : (0:Int) ≤ 1)), (show ∀ (u : Nat) (D : s_D), gr 0 6 = .ref u → t_VL gr u → t_CV gi gl u D → t_Cb D → ((1 ≤ ar1.toInt ∧ 0 ≤ ar2.toInt ∧ ar2.toInt < D 0 ∧ ¬ s_ct D ar1 (-1) = 0) → (0 : Int) = 1) ∧ (¬ (1 ≤ ar1.toInt ∧ 0 ≤ ar2.toInt ∧ ar2.toInt < D 0 ∧ ¬ s_ct D ar1 (-1) = 0) → (0 : Int) = 0) from (by
                                                            intro u D hu hl hc hb
                                                            have hm := hc.1.1
                                                            have hlt := (t_lt1p e1 h2)
                                                            exact ⟨fun h => absurd h (by omega), fun _ => rfl⟩))⟩⟩
    · have l9 : 0 ≤ ar2.toInt := t_lel (t_nlt h6) (by decide : (0:Int) ≤ (0:Int32).toInt)
      refine ev_loc f_X11_isPort (nx := 5) rfl rfl rfl rfl ?_
      refine ev_loc f_X11_isPort (nx := 6) rfl rfl rfl rfl ?_
      obtain ⟨a10, e10, p10⟩ := hI.2.2.2.1.1
      refine ev_getR f_X11_isPort (nx := 9) rfl (hI.wf.s rfl) rfl rfl e10 rfl rfl ?_
      refine ev_getI f_X11_isPort (nx := 12) rfl p10.1 rfl rfl rfl ?_
      obtain ⟨l11, u11⟩ := hI.b p10.1 (t_bdK rfl : t_bd 4 0 = some (0, 6))
      refine ev_if f_X11_isPort (t1 := 19) (t2 := 15) rfl rfl rfl (fun h12 => ?_) (fun h12 => ?_)
      · have r13 : (gi a10 0).toInt ≤ ar2.toInt := Int32.le_iff_toInt_le.mp h12
        refine ev_ic f_X11_isPort (nx := 20) (v := 0) rfl (by decide) rfl ?_
        refine ev_retK1 f_X11_isPort rfl rfl rfl ?_
        refine ev_t f_X11_doubt (t1 := 14) (t2 := 20) rfl rfl rfl (by decide) ?_
        refine ev_loc f_X11_doubt (nx := 15) rfl rfl rfl rfl ?_
        refine ev_ic f_X11_doubt (nx := 16) (v := 1) rfl (by decide) rfl ?_
        refine ev_inV2 f_X11_doubt (nx := 19) (lo2 := [(0, .ref 0), (1, .int 1)]) rfl rfl rfl rfl f_X11_deny (hI.wf.s rfl) rfl rfl rfl rfl rfl ?_
        refine ev_loc f_X11_deny (nx := 1) rfl rfl rfl rfl ?_
        refine ev_loc f_X11_deny (nx := 2) rfl rfl rfl rfl ?_
        refine ev_putIT f_X11_deny (nx := 5) rfl (hI.wf.s rfl) rfl rfl rfl (hI.put0 (hI.wf.s rfl) rfl rfl) (hX.upI rfl) (fun g14 e14 hI hX => ?_)
        refine ev_ic f_X11_deny (nx := 6) (v := 0) rfl (by decide) rfl ?_
        refine ev_retK1 f_X11_deny rfl rfl rfl ?_
        exact ev_ret f_X11_doubt rfl rfl rfl ⟨_, _, _, rfl, hI, hX, ⟨_, rfl, (by decide : (0:Int) ≤ (0:Int32).toInt), (Int.le_trans (by decide : (0:Int32).toInt ≤ (0:Int)) (by decide : (0:Int) ≤ 1)), (show ∀ (u : Nat) (D : s_D), gr 0 6 = .ref u → t_VL gr u → t_CV gi gl u D → t_Cb D → ((1 ≤ ar1.toInt ∧ 0 ≤ ar2.toInt ∧ ar2.toInt < D 0 ∧ ¬ s_ct D ar1 (-1) = 0) → (0 : Int) = 1) ∧ (¬ (1 ≤ ar1.toInt ∧ 0 ≤ ar2.toInt ∧ ar2.toInt < D 0 ∧ ¬ s_ct D ar1 (-1) = 0) → (0 : Int) = 0) from (by
                                                            intro u D hu hl hc hb
                                                            have ha : a10 = u := Value.ref.inj (e10.symm.trans hu)
                                                            subst ha
                                                            have hm := hc.1.1
                                                            have hlt := (t_lt1p e1 h2)
                                                            exact ⟨fun h => absurd h (by omega), fun _ => rfl⟩))⟩⟩
      · have r15 : ar2.toInt < (gi a10 0).toInt := Int32.lt_iff_toInt_lt.mp (t_nle h12)
        have u16 : ar2.toInt ≤ 5 := t_ltu (t_nle h12) u11 rfl
        have l17 : 1 ≤ (gi a10 0).toInt := t_ltl (t_nle h12) l9 rfl
        refine ev_ic f_X11_isPort (nx := 16) (v := 1) rfl (by decide) rfl ?_
        refine ev_jmp f_X11_isPort (nx := 20) rfl rfl rfl ?_
        refine ev_retK1 f_X11_isPort rfl rfl rfl ?_
        refine ev_f f_X11_doubt (t1 := 14) (t2 := 20) rfl rfl rfl (by decide) ?_
        refine ev_loc f_X11_doubt (nx := 21) rfl rfl rfl rfl ?_
        refine ev_getR f_X11_doubt (nx := 24) (v := .ref a10) rfl (hI.wf.s rfl) rfl rfl e10 rfl rfl ?_
        refine ev_loc f_X11_doubt (nx := 25) rfl rfl rfl rfl ?_
        refine ev_ic f_X11_doubt (nx := 26) (v := -1) rfl (by decide) rfl ?_
        refine ev_qI0 f_X11_doubt (nx := 29) (r := []) rfl rfl rfl rfl rfl rfl rfl (c_d_countReadings hI (a10) p10 (ar1) ((-1))) rfl (fun w18 l18 u18 q18 => ?_)
        have q18 : ∀ D : s_D, t_VL gr a10 → t_CV gi gl a10 D → t_Cb D → w18.toInt = s_ct D ar1 (-1) := q18
        refine ev_loc f_X11_doubt (nx := 31) (lo' := [(4, .int w18), (0, .ref 0), (1, .long ar1), (3, .int ar2)]) rfl rfl rfl rfl ?_
        refine ev_loc f_X11_doubt (nx := 33) rfl rfl rfl rfl ?_
        refine ev_if f_X11_doubt (t1 := 36) (t2 := 43) rfl rfl rfl (fun h19 => ?_) (fun h19 => ?_)
        · have u20 : w18.toInt ≤ 0 := t_equ h19 (by decide : (0:Int32).toInt ≤ (0:Int))
          refine ev_loc f_X11_doubt (nx := 37) rfl rfl rfl rfl ?_
          refine ev_bp f_X11_doubt (nx := 39) (v := 6) rfl (by decide) rfl ?_
          refine ev_inV2 f_X11_doubt (nx := 42) (lo2 := [(0, .ref 0), (1, .int 6)]) rfl rfl rfl rfl f_X11_deny (hI.wf.s rfl) rfl rfl rfl rfl rfl ?_
          refine ev_loc f_X11_deny (nx := 1) rfl rfl rfl rfl ?_
          refine ev_loc f_X11_deny (nx := 2) rfl rfl rfl rfl ?_
          refine ev_putIT f_X11_deny (nx := 5) rfl (hI.wf.s rfl) rfl rfl rfl (hI.put0 (hI.wf.s rfl) rfl rfl) (hX.upI rfl) (fun g21 e21 hI hX => ?_)
          refine ev_ic f_X11_deny (nx := 6) (v := 0) rfl (by decide) rfl ?_
          refine ev_retK1 f_X11_deny rfl rfl rfl ?_
          exact ev_ret f_X11_doubt rfl rfl rfl ⟨_, _, _, rfl, hI, hX, ⟨_, rfl, (by decide : (0:Int) ≤ (0:Int32).toInt), (Int.le_trans (by decide : (0:Int32).toInt ≤ (0:Int)) (by decide : (0:Int) ≤ 1)), (show ∀ (u : Nat) (D : s_D), gr 0 6 = .ref u → t_VL gr u → t_CV gi gl u D → t_Cb D → ((1 ≤ ar1.toInt ∧ 0 ≤ ar2.toInt ∧ ar2.toInt < D 0 ∧ ¬ s_ct D ar1 (-1) = 0) → (0 : Int) = 1) ∧ (¬ (1 ≤ ar1.toInt ∧ 0 ≤ ar2.toInt ∧ ar2.toInt < D 0 ∧ ¬ s_ct D ar1 (-1) = 0) → (0 : Int) = 0) from (by
                                                            intro u D hu hl hc hb
                                                            have ha : a10 = u := Value.ref.inj (e10.symm.trans hu)
                                                            subst ha
                                                            have hm := hc.1.1
                                                            have hlt := (t_lt1p e1 h2)
                                                            have hq := q18 D hl hc hb
                                                            exact ⟨fun h => absurd (hq.symm.trans (by have z0 : (0 : Int32).toInt = 0 := rfl; omega)) h.2.2.2, fun _ => rfl⟩))⟩⟩
        · have r22 : w18.toInt ≠ 0 := fun e => h19 (Int32.toInt_inj.mp (e.trans (by decide : (0:Int) = (0 : Int32).toInt)))
          have l23 : 1 ≤ w18.toInt := t_nel h19 l18 rfl rfl
          refine ev_loc f_X11_doubt (nx := 44) rfl rfl rfl rfl ?_
          refine ev_loc f_X11_doubt (nx := 45) rfl rfl rfl rfl ?_
          refine ev_getR f_X11_doubt (nx := 48) (v := .ref a10) rfl (hI.wf.s rfl) rfl rfl e10 rfl rfl ?_
          refine ev_loc f_X11_doubt (nx := 49) rfl rfl rfl rfl ?_
          refine ev_loc f_X11_doubt (nx := 50) rfl rfl rfl rfl ?_
          refine ev_qI0 f_X11_doubt (nx := 53) (r := [.ref 0]) rfl rfl rfl rfl rfl rfl rfl (c_d_countReadings hI (a10) p10 (ar1) (ar2)) rfl (fun w24 l24 u24 q24 => ?_)
          have q24 : ∀ D : s_D, t_VL gr a10 → t_CV gi gl a10 D → t_Cb D → w24.toInt = s_ct D ar1 ar2.toInt := q24
          refine ev_loc f_X11_doubt (nx := 55) rfl rfl rfl rfl ?_
          refine ev_c0 f_X11_doubt (nx := 58) (r := []) rfl rfl rfl rfl rfl rfl rfl (c_tellFraction hI (w24) (w18)) rfl hX rfl (fun gi25 gl25 gr25 hI hX hC25 => ?_)
          replace p10 := p10.ext hC25.2
          refine ev_loc f_X11_doubt (nx := 59) rfl rfl rfl rfl ?_
          refine ev_inV1 f_X11_doubt (nx := 62) (lo2 := [(0, .ref 0)]) rfl rfl rfl rfl f_X11_grant (hI.wf.s rfl) rfl rfl rfl rfl rfl ?_
          refine ev_loc f_X11_grant (nx := 1) rfl rfl rfl rfl ?_
          refine ev_ic f_X11_grant (nx := 2) (v := 0) rfl (by decide) rfl ?_
          refine ev_putIT f_X11_grant (nx := 5) rfl (hI.wf.s rfl) rfl rfl rfl (hI.put0 (hI.wf.s rfl) rfl rfl) (hX.upI rfl) (fun g26 e26 hI hX => ?_)
          refine ev_ic f_X11_grant (nx := 6) (v := 1) rfl (by decide) rfl ?_
          refine ev_retK1 f_X11_grant rfl rfl rfl ?_
          exact ev_ret f_X11_doubt rfl rfl rfl ⟨_, _, _, rfl, hI, hX, ⟨_, rfl, (Int.le_trans (by decide : (0:Int) ≤ 1) (by decide : (1:Int) ≤ (1:Int32).toInt)), (by decide : (1:Int32).toInt ≤ (1:Int)), (show ∀ (u : Nat) (D : s_D), gr 0 6 = .ref u → t_VL gr u → t_CV gi gl u D → t_Cb D → ((1 ≤ ar1.toInt ∧ 0 ≤ ar2.toInt ∧ ar2.toInt < D 0 ∧ ¬ s_ct D ar1 (-1) = 0) → (1 : Int) = 1) ∧ (¬ (1 ≤ ar1.toInt ∧ 0 ≤ ar2.toInt ∧ ar2.toInt < D 0 ∧ ¬ s_ct D ar1 (-1) = 0) → (1 : Int) = 0) from (by
                                                            intro u D hu hl hc hb
                                                            have ha : a10 = u := Value.ref.inj (e10.symm.trans hu)
                                                            subst ha
                                                            have hm := hc.1.1
                                                            have hlt := (t_lt1p e1 h2)
                                                            have hq := q18 D hl hc hb
                                                            exact ⟨fun _ => rfl, fun h => absurd (show _ from ⟨by omega, by omega, by omega, fun hh => absurd (hq.trans hh) (by have z0 : (0 : Int32).toInt = 0 := rfl; omega)⟩) h⟩))⟩⟩
noncomputable def wl_e_doubt : List (Nat × Nat) := [(69, 2), (69, 3), (69, 4), (69, 29), (78, 9999), (79, 9999), (80, 9999)]
noncomputable def Q_e_doubt (gi : Nat → Nat → Int32) (gl : Nat → Nat → Int64) (gr : Nat → Nat → Value) (ar1 : Int64) (ar2 : Int32) : Int32 → (Nat → Nat → Int32) → (Nat → Nat → Int64) → (Nat → Nat → Value) → Prop := fun (v : Int32) (gi2 : Nat → Nat → Int32) (gl2 : Nat → Nat → Int64) (gr2 : Nat → Nat → Value) => ∀ D : s_D, t_ME 0 gi D → t_Cb D → ((1 ≤ ar1.toInt ∧ 0 ≤ ar2.toInt ∧ ar2.toInt < D 0 ∧ ¬ s_ct D ar1 (-1) = 0) → v.toInt = 1) ∧ (¬ (1 ≤ ar1.toInt ∧ 0 ≤ ar2.toInt ∧ ar2.toInt < D 0 ∧ ¬ s_ct D ar1 (-1) = 0) → v.toInt = 0)
theorem c_e_doubt {X : x_Ext} {d : Nat} {sh : List (Nat ⊕ (Nat × Nat))} {gi : Nat → Nat → Int32} {gl : Nat → Nat → Int64} {gr : Nat → Nat → Value} (hI : t_I sh gi gr) (ar1 : Int64) (ar2 : Int32) : x_Me X (d + 5) n_X12_doubt [.ref 69, .long ar1, .int ar2] (sh, gi, gl, gr) (t_PI wl_e_doubt sh gi gl gr 0 1 (Q_e_doubt gi gl gr ar1 ar2)) := by
  have hX : t_X wl_e_doubt sh gi gl gr gi gl gr := t_X.rf
  refine me_i f_X12_doubt (hI.wf.s rfl) rfl rfl rfl ?_
  refine ev_loc f_X12_doubt (nx := 1) rfl rfl rfl rfl ?_
  refine ev_lc f_X12_doubt (nx := 2) (v := 1) rfl (by decide) rfl ?_
  refine ev_anyIE f_X12_doubt (nx := 3) rfl rfl rfl rfl (fun z1 e1 => ?_)
  refine ev_if f_X12_doubt (t1 := 14) (t2 := 6) rfl rfl rfl (fun h2 => ?_) (fun h2 => ?_)
  · have u3 : z1.toInt ≤ (-1) := t_ltu h2 (by decide : (0:Int32).toInt ≤ (0:Int)) rfl
    refine ev_loc f_X12_doubt (nx := 15) rfl rfl rfl rfl ?_
    refine ev_ic f_X12_doubt (nx := 16) (v := 1) rfl (by decide) rfl ?_
    refine ev_inV2 f_X12_doubt (nx := 19) (lo2 := [(0, .ref 69), (1, .int 1)]) rfl rfl rfl rfl f_X12_is (hI.wf.s rfl) rfl rfl rfl rfl rfl ?_
    refine ev_loc f_X12_is (nx := 1) rfl rfl rfl rfl ?_
    refine ev_loc f_X12_is (nx := 2) rfl rfl rfl rfl ?_
    refine ev_putIT f_X12_is (nx := 5) rfl (hI.wf.s rfl) rfl rfl rfl (hI.put0 (hI.wf.s rfl) rfl rfl) (hX.upI rfl) (fun g4 e4 hI hX => ?_)
    refine ev_loc f_X12_is (nx := 6) rfl rfl rfl rfl ?_
    refine ev_f f_X12_is (t1 := 9) (t2 := 13) rfl rfl rfl (by decide) ?_
    refine ev_ic f_X12_is (nx := 14) (v := 0) rfl (by decide) rfl ?_
    refine ev_retK1 f_X12_is rfl rfl rfl ?_
    exact ev_ret f_X12_doubt rfl rfl rfl ⟨_, _, _, rfl, hI, hX, ⟨_, rfl, (by decide : (0:Int) ≤ (0:Int32).toInt), (Int.le_trans (by decide : (0:Int32).toInt ≤ (0:Int)) (by decide : (0:Int) ≤ 1)), (show ∀ D : s_D, t_ME 0 gi D → t_Cb D → ((1 ≤ ar1.toInt ∧ 0 ≤ ar2.toInt ∧ ar2.toInt < D 0 ∧ ¬ s_ct D ar1 (-1) = 0) → (0 : Int) = 1) ∧ (¬ (1 ≤ ar1.toInt ∧ 0 ≤ ar2.toInt ∧ ar2.toInt < D 0 ∧ ¬ s_ct D ar1 (-1) = 0) → (0 : Int) = 0) from (by
                                                            intro D hm hb
                                                            have h0 : (gi 70 0).toInt = D 0 := hm.1.1.1
                                                            have hlt := (t_lt1n e1 h2)
                                                            exact ⟨fun h => absurd h (by omega), fun _ => rfl⟩))⟩⟩
  · have l5 : 0 ≤ z1.toInt := t_lel (t_nlt h2) (by decide : (0:Int) ≤ (0:Int32).toInt)
    refine ev_loc f_X12_doubt (nx := 7) rfl rfl rfl rfl ?_
    refine ev_loc f_X12_doubt (nx := 8) rfl rfl rfl rfl ?_
    refine ev_inV2 f_X12_doubt (nx := 11) (lo2 := [(0, .ref 69), (1, .int ar2)]) rfl rfl rfl rfl f_X12_isPort (hI.wf.s rfl) rfl rfl rfl rfl rfl ?_
    refine ev_loc f_X12_isPort (nx := 1) rfl rfl rfl rfl ?_
    refine ev_if f_X12_isPort (t1 := 18) (t2 := 4) rfl rfl rfl (fun h6 => ?_) (fun h6 => ?_)
    · have u7 : ar2.toInt ≤ (-1) := t_ltu h6 (by decide : (0:Int32).toInt ≤ (0:Int)) rfl
      refine ev_ic f_X12_isPort (nx := 19) (v := 0) rfl (by decide) rfl ?_
      refine ev_retK1 f_X12_isPort rfl rfl rfl ?_
      refine ev_t f_X12_doubt (t1 := 14) (t2 := 20) rfl rfl rfl (by decide) ?_
      refine ev_loc f_X12_doubt (nx := 15) rfl rfl rfl rfl ?_
      refine ev_ic f_X12_doubt (nx := 16) (v := 1) rfl (by decide) rfl ?_
      refine ev_inV2 f_X12_doubt (nx := 19) (lo2 := [(0, .ref 69), (1, .int 1)]) rfl rfl rfl rfl f_X12_is (hI.wf.s rfl) rfl rfl rfl rfl rfl ?_
      refine ev_loc f_X12_is (nx := 1) rfl rfl rfl rfl ?_
      refine ev_loc f_X12_is (nx := 2) rfl rfl rfl rfl ?_
      refine ev_putIT f_X12_is (nx := 5) rfl (hI.wf.s rfl) rfl rfl rfl (hI.put0 (hI.wf.s rfl) rfl rfl) (hX.upI rfl) (fun g8 e8 hI hX => ?_)
      refine ev_loc f_X12_is (nx := 6) rfl rfl rfl rfl ?_
      refine ev_f f_X12_is (t1 := 9) (t2 := 13) rfl rfl rfl (by decide) ?_
      refine ev_ic f_X12_is (nx := 14) (v := 0) rfl (by decide) rfl ?_
      refine ev_retK1 f_X12_is rfl rfl rfl ?_
      exact ev_ret f_X12_doubt rfl rfl rfl ⟨_, _, _, rfl, hI, hX, ⟨_, rfl, (by decide : (0:Int) ≤ (0:Int32).toInt), (Int.le_trans (by decide : (0:Int32).toInt ≤ (0:Int)) (by decide : (0:Int) ≤ 1)), (show ∀ D : s_D, t_ME 0 gi D → t_Cb D → ((1 ≤ ar1.toInt ∧ 0 ≤ ar2.toInt ∧ ar2.toInt < D 0 ∧ ¬ s_ct D ar1 (-1) = 0) → (0 : Int) = 1) ∧ (¬ (1 ≤ ar1.toInt ∧ 0 ≤ ar2.toInt ∧ ar2.toInt < D 0 ∧ ¬ s_ct D ar1 (-1) = 0) → (0 : Int) = 0) from (by
                                                            intro D hm hb
                                                            have h0 : (gi 70 0).toInt = D 0 := hm.1.1.1
                                                            have hlt := (t_lt1p e1 h2)
                                                            exact ⟨fun h => absurd h (by omega), fun _ => rfl⟩))⟩⟩
    · have l9 : 0 ≤ ar2.toInt := t_lel (t_nlt h6) (by decide : (0:Int) ≤ (0:Int32).toInt)
      refine ev_loc f_X12_isPort (nx := 5) rfl rfl rfl rfl ?_
      refine ev_loc f_X12_isPort (nx := 6) rfl rfl rfl rfl ?_
      refine ev_getR f_X12_isPort (nx := 9) rfl (hI.wf.s rfl) rfl rfl (hI.wf.r rfl) rfl rfl ?_
      refine ev_ic f_X12_isPort (nx := 10) (v := 0) rfl (by decide) rfl ?_
      obtain ⟨l10, u10⟩ := hI.ab (by decide +kernel : t_abr 70 0 0 0 6 = true) (Nat.le_refl _) (Nat.le_refl _)
      refine ev_ialdv f_X12_isPort (nx := 11) (w := (gi 70 0)) rfl (hI.wf.s rfl) (by decide) (rfl : (0 : Int32).toNatClampNeg = 0) (by decide) rfl rfl ?_
      refine ev_if f_X12_isPort (t1 := 18) (t2 := 14) rfl rfl rfl (fun h11 => ?_) (fun h11 => ?_)
      · have r12 : (gi 70 0).toInt ≤ ar2.toInt := Int32.le_iff_toInt_le.mp h11
        refine ev_ic f_X12_isPort (nx := 19) (v := 0) rfl (by decide) rfl ?_
        refine ev_retK1 f_X12_isPort rfl rfl rfl ?_
        refine ev_t f_X12_doubt (t1 := 14) (t2 := 20) rfl rfl rfl (by decide) ?_
        refine ev_loc f_X12_doubt (nx := 15) rfl rfl rfl rfl ?_
        refine ev_ic f_X12_doubt (nx := 16) (v := 1) rfl (by decide) rfl ?_
        refine ev_inV2 f_X12_doubt (nx := 19) (lo2 := [(0, .ref 69), (1, .int 1)]) rfl rfl rfl rfl f_X12_is (hI.wf.s rfl) rfl rfl rfl rfl rfl ?_
        refine ev_loc f_X12_is (nx := 1) rfl rfl rfl rfl ?_
        refine ev_loc f_X12_is (nx := 2) rfl rfl rfl rfl ?_
        refine ev_putIT f_X12_is (nx := 5) rfl (hI.wf.s rfl) rfl rfl rfl (hI.put0 (hI.wf.s rfl) rfl rfl) (hX.upI rfl) (fun g13 e13 hI hX => ?_)
        refine ev_loc f_X12_is (nx := 6) rfl rfl rfl rfl ?_
        refine ev_f f_X12_is (t1 := 9) (t2 := 13) rfl rfl rfl (by decide) ?_
        refine ev_ic f_X12_is (nx := 14) (v := 0) rfl (by decide) rfl ?_
        refine ev_retK1 f_X12_is rfl rfl rfl ?_
        exact ev_ret f_X12_doubt rfl rfl rfl ⟨_, _, _, rfl, hI, hX, ⟨_, rfl, (by decide : (0:Int) ≤ (0:Int32).toInt), (Int.le_trans (by decide : (0:Int32).toInt ≤ (0:Int)) (by decide : (0:Int) ≤ 1)), (show ∀ D : s_D, t_ME 0 gi D → t_Cb D → ((1 ≤ ar1.toInt ∧ 0 ≤ ar2.toInt ∧ ar2.toInt < D 0 ∧ ¬ s_ct D ar1 (-1) = 0) → (0 : Int) = 1) ∧ (¬ (1 ≤ ar1.toInt ∧ 0 ≤ ar2.toInt ∧ ar2.toInt < D 0 ∧ ¬ s_ct D ar1 (-1) = 0) → (0 : Int) = 0) from (by
                                                            intro D hm hb
                                                            have h0 : (gi 70 0).toInt = D 0 := hm.1.1.1
                                                            have hlt := (t_lt1p e1 h2)
                                                            exact ⟨fun h => absurd h (by omega), fun _ => rfl⟩))⟩⟩
      · have r14 : ar2.toInt < (gi 70 0).toInt := Int32.lt_iff_toInt_lt.mp (t_nle h11)
        have u15 : ar2.toInt ≤ 5 := t_ltu (t_nle h11) u10 rfl
        have l16 : 1 ≤ (gi 70 0).toInt := t_ltl (t_nle h11) l9 rfl
        refine ev_ic f_X12_isPort (nx := 15) (v := 1) rfl (by decide) rfl ?_
        refine ev_jmp f_X12_isPort (nx := 19) rfl rfl rfl ?_
        refine ev_retK1 f_X12_isPort rfl rfl rfl ?_
        refine ev_f f_X12_doubt (t1 := 14) (t2 := 20) rfl rfl rfl (by decide) ?_
        refine ev_loc f_X12_doubt (nx := 21) rfl rfl rfl rfl ?_
        refine ev_loc f_X12_doubt (nx := 22) rfl rfl rfl rfl ?_
        refine ev_qN f_X12_doubt (nx := 25) (r := []) rfl rfl rfl rfl rfl rfl rfl (c_n_findsReadings hI (ar1)) rfl hX rfl (fun gi17 gl17 gr17 hI hX hC17 q17 => ?_)
        have q17 : (gi17 69 29).toInt ≤ 474 ∧ (∀ j, gi17 70 j = gi 70 j) ∧ (∀ D : s_D, t_ME 0 gi D → t_Cb D → (gi17 69 29).toInt = s_ct D ar1 (-1)) := q17
        refine ev_loc f_X12_doubt (nx := 26) rfl rfl rfl rfl ?_
        refine ev_getI f_X12_doubt (nx := 29) rfl (hI.wf.s rfl) rfl rfl rfl ?_
        obtain ⟨l18, u18⟩ := hI.b (hI.wf.s (k := 69) rfl) (t_bdK rfl : t_bd 11 29 = some (0, 500))
        refine ev_if f_X12_doubt (t1 := 32) (t2 := 39) rfl rfl rfl (fun h19 => ?_) (fun h19 => ?_)
        · have u20 : (gi17 69 29).toInt ≤ 0 := t_equ h19 (by decide : (0:Int32).toInt ≤ (0:Int))
          refine ev_loc f_X12_doubt (nx := 33) rfl rfl rfl rfl ?_
          refine ev_bp f_X12_doubt (nx := 35) (v := 6) rfl (by decide) rfl ?_
          refine ev_inV2 f_X12_doubt (nx := 38) (lo2 := [(0, .ref 69), (1, .int 6)]) rfl rfl rfl rfl f_X12_is (hI.wf.s rfl) rfl rfl rfl rfl rfl ?_
          refine ev_loc f_X12_is (nx := 1) rfl rfl rfl rfl ?_
          refine ev_loc f_X12_is (nx := 2) rfl rfl rfl rfl ?_
          refine ev_putIT f_X12_is (nx := 5) rfl (hI.wf.s rfl) rfl rfl rfl (hI.put0 (hI.wf.s rfl) rfl rfl) (hX.upI rfl) (fun g21 e21 hI hX => ?_)
          refine ev_loc f_X12_is (nx := 6) rfl rfl rfl rfl ?_
          refine ev_f f_X12_is (t1 := 9) (t2 := 13) rfl rfl rfl (by decide) ?_
          refine ev_ic f_X12_is (nx := 14) (v := 0) rfl (by decide) rfl ?_
          refine ev_retK1 f_X12_is rfl rfl rfl ?_
          exact ev_ret f_X12_doubt rfl rfl rfl ⟨_, _, _, rfl, hI, hX, ⟨_, rfl, (by decide : (0:Int) ≤ (0:Int32).toInt), (Int.le_trans (by decide : (0:Int32).toInt ≤ (0:Int)) (by decide : (0:Int) ≤ 1)), (show ∀ D : s_D, t_ME 0 gi D → t_Cb D → ((1 ≤ ar1.toInt ∧ 0 ≤ ar2.toInt ∧ ar2.toInt < D 0 ∧ ¬ s_ct D ar1 (-1) = 0) → (0 : Int) = 1) ∧ (¬ (1 ≤ ar1.toInt ∧ 0 ≤ ar2.toInt ∧ ar2.toInt < D 0 ∧ ¬ s_ct D ar1 (-1) = 0) → (0 : Int) = 0) from (by
                                                            intro D hm hb
                                                            have h0 : (gi 70 0).toInt = D 0 := hm.1.1.1
                                                            have hlt := (t_lt1p e1 h2)
                                                            have hq := q17.2.2 D hm hb
                                                            have ff22 : (g21 69 29).toInt = (gi17 69 29).toInt := congrArg Int32.toInt ((by rw [e21]; exact x_up2_off (Or.inr (by decide)) : g21 69 29 = gi17 69 29).trans rfl)
                                                            exact ⟨fun h => absurd (hq.symm.trans (by have z0 : (0 : Int32).toInt = 0 := rfl; omega)) h.2.2.2, fun _ => rfl⟩))⟩⟩
        · have r23 : (gi17 69 29).toInt ≠ 0 := fun e => h19 (Int32.toInt_inj.mp (e.trans (by decide : (0:Int) = (0 : Int32).toInt)))
          have l24 : 1 ≤ (gi17 69 29).toInt := t_nel h19 l18 rfl rfl
          refine ev_ic f_X12_doubt (nx := 40) (v := 0) rfl (by decide) rfl ?_
          refine ev_loc f_X12_doubt (nx := 42) (lo' := [(4, .int 0), (0, .ref 69), (1, .long ar1), (3, .int ar2)]) rfl rfl rfl rfl ?_
          refine ev_ic f_X12_doubt (nx := 43) (v := 0) rfl (by decide) rfl ?_
          refine ev_loc f_X12_doubt (nx := 45) (lo' := [(5, .int 0), (4, .int 0), (0, .ref 69), (1, .long ar1), (3, .int ar2)]) rfl rfl rfl rfl ?_
          have L25 : ∀ (m25 : Nat) (y25_5 : Int32) (y25_4 : Int32), 0 ≤ y25_5.toInt → y25_5.toInt ≤ 500 → 0 ≤ y25_4.toInt → y25_4.toInt ≤ 500 → 0 ≤ y25_4.toInt → y25_4.toInt ≤ y25_5.toInt → (∀ D : s_D, t_ME 0 gi D → t_Cb D → (1 ≤ ar1.toInt ∧ 0 ≤ ar2.toInt ∧ ar2.toInt < D 0 ∧ ¬ s_ct D ar1 (-1) = 0)) → (500 - y25_5.toInt).toNat = m25 → x_Ev X (d + 5) n_X12_doubt 45 [(5, .int y25_5), (4, .int y25_4), (0, .ref 69), (1, .long ar1), (3, .int ar2)] [] (sh, gi17, gl17, gr17) (t_PI wl_e_doubt sh gi gl gr 0 1 (Q_e_doubt gi gl gr ar1 ar2)) := by
            intro m25
            induction m25 using Nat.strongRecOn with
            | _ m25 ih25 =>
            intro y25_5 y25_4 l25_5 u25_5 l25_4 u25_4 j25_0 j25_1 j25_2 hm25
            refine ev_loc f_X12_doubt (nx := 47) rfl rfl rfl rfl ?_
            refine ev_loc f_X12_doubt (nx := 48) rfl rfl rfl rfl ?_
            refine ev_gvI f_X12_doubt (nx := 51) (w := (gi17 69 29)) rfl (hI.wf.s rfl) rfl rfl rfl rfl ?_
            refine ev_if f_X12_doubt (t1 := 92) (t2 := 54) rfl rfl rfl (fun h26 => ?_) (fun h26 => ?_)
            · have r27 : (gi17 69 29).toInt ≤ y25_5.toInt := Int32.le_iff_toInt_le.mp h26
              have l28 : 1 ≤ y25_5.toInt := t_lel h26 l24
              refine ev_loc f_X12_doubt (nx := 93) rfl rfl rfl rfl ?_
              refine ev_loc f_X12_doubt (nx := 95) rfl rfl rfl rfl ?_
              refine ev_anyLE f_X12_doubt (nx := 96) rfl rfl rfl rfl (fun z29 e29 => ?_)
              have i29 : z29.toInt = y25_4.toInt := by rw [e29]; exact Int32.toInt_toInt64 _
              refine ev_loc f_X12_doubt (nx := 97) rfl rfl rfl rfl ?_
              refine ev_gvI f_X12_doubt (nx := 100) (w := (gi17 69 29)) rfl (hI.wf.s rfl) rfl rfl rfl rfl ?_
              refine ev_anyLE f_X12_doubt (nx := 101) rfl rfl rfl rfl (fun z30 e30 => ?_)
              have i30 : z30.toInt = (gi17 69 29).toInt := by rw [e30]; exact Int32.toInt_toInt64 _
              refine ev_cI f_X12_doubt (nx := 104) (r := []) rfl rfl rfl rfl rfl rfl rfl (c_m_tellsBy hI (z29) (z30) (by omega) (by omega)) rfl hX rfl (fun w31 gi31 gl31 gr31 l31 u31 hI hX hC31 => ?_)
              exact ev_retZ f_X12_doubt rfl (Int.le_trans (by decide : (0:Int) ≤ 1) l31) u31 ⟨_, _, _, rfl, hI, hX, ⟨_, rfl, (Int.le_trans (by decide : (0:Int) ≤ 1) l31), u31, (show ∀ D : s_D, t_ME 0 gi D → t_Cb D → ((1 ≤ ar1.toInt ∧ 0 ≤ ar2.toInt ∧ ar2.toInt < D 0 ∧ ¬ s_ct D ar1 (-1) = 0) → w31.toInt = 1) ∧ (¬ (1 ≤ ar1.toInt ∧ 0 ≤ ar2.toInt ∧ ar2.toInt < D 0 ∧ ¬ s_ct D ar1 (-1) = 0) → w31.toInt = 0) from (by
                                                            intro D hm hb
                                                            have h0 : (gi 70 0).toInt = D 0 := hm.1.1.1
                                                            exact ⟨fun _ => (by omega), fun h => absurd (j25_2 D hm hb) h⟩))⟩⟩
            · have r32 : y25_5.toInt < (gi17 69 29).toInt := Int32.lt_iff_toInt_lt.mp (t_nle h26)
              have u33 : y25_5.toInt ≤ 499 := t_ltu (t_nle h26) u18 rfl
              refine ev_loc f_X12_doubt (nx := 56) rfl rfl rfl rfl ?_
              refine ev_loc f_X12_doubt (nx := 57) rfl rfl rfl rfl ?_
              refine ev_getR f_X12_doubt (nx := 60) rfl (hI.wf.s rfl) rfl rfl (hI.wf.r rfl) rfl rfl ?_
              refine ev_loc f_X12_doubt (nx := 62) rfl rfl rfl rfl ?_
              refine ev_ialdT f_X12_doubt (nx := 63) rfl (hI.wf.s rfl) l25_5 (by decide) u33 (by decide) rfl (fun w34 e34 => ?_)
              refine ev_loc f_X12_doubt (nx := 64) rfl rfl rfl rfl ?_
              refine ev_if f_X12_doubt (t1 := 78) (t2 := 67) rfl rfl rfl (fun h35 => ?_) (fun h35 => ?_)
              · have r36 : w34.toInt = ar2.toInt := t_eqi h35
                have u37 : w34.toInt ≤ 5 := t_equ h35 u15
                have l38 : 0 ≤ w34.toInt := t_eql h35 l9
                refine ev_ic f_X12_doubt (nx := 79) (v := 1) rfl (by decide) rfl ?_
                refine ev_jmp f_X12_doubt (nx := 83) rfl rfl rfl ?_
                refine ev_addC f_X12_doubt (nx := 84) (c := 1) (l := 1) (u := 501) rfl (by decide) l25_4 u25_4 rfl rfl (by decide) (by decide) rfl (fun z39 e39 l39 u39 => ?_)
                refine ev_loc f_X12_doubt (nx := 86) (lo' := [(4, .int z39), (5, .int y25_5), (0, .ref 69), (1, .long ar1), (3, .int ar2)]) rfl rfl rfl rfl ?_
                refine ev_incR f_X12_doubt (nx := 89) (c := 1) (l := 1) (u := 500) rfl rfl (by decide) (by decide) l25_5 u33 rfl rfl (by decide) (by decide) rfl (fun z40 e40 l40 u40 => ?_)
                refine ev_jmp f_X12_doubt (nx := 45) rfl rfl rfl ?_
                refine ev_sub (lo := [(5, .int z40), (4, .int z39), (0, .ref 69), (1, .long ar1), (3, .int ar2)]) rfl (t_sc rfl (t_sc rfl (t_sc rfl (t_sc rfl (t_sc rfl t_sn))))) ?_
                exact ih25 _ (by omega) (z40) (z39) (Int.le_trans (by decide : (0:Int) ≤ 1) l40) u40 (Int.le_trans (by decide : (0:Int) ≤ 1) l39) (by omega : z39.toInt ≤ (500:Int)) (by omega) (by omega) j25_2 rfl
              · have r41 : w34.toInt ≠ ar2.toInt := t_nei h35
                refine ev_loc f_X12_doubt (nx := 68) rfl rfl rfl rfl ?_
                refine ev_getR f_X12_doubt (nx := 71) rfl (hI.wf.s rfl) rfl rfl (hI.wf.r rfl) rfl rfl ?_
                refine ev_loc f_X12_doubt (nx := 73) rfl rfl rfl rfl ?_
                refine ev_ialdT f_X12_doubt (nx := 74) rfl (hI.wf.s rfl) l25_5 (by decide) u33 (by decide) rfl (fun w42 e42 => ?_)
                refine ev_loc f_X12_doubt (nx := 75) rfl rfl rfl rfl ?_
                refine ev_if f_X12_doubt (t1 := 78) (t2 := 82) rfl rfl rfl (fun h43 => ?_) (fun h43 => ?_)
                · have r44 : w42.toInt = ar2.toInt := t_eqi h43
                  have u45 : w42.toInt ≤ 5 := t_equ h43 u15
                  have l46 : 0 ≤ w42.toInt := t_eql h43 l9
                  refine ev_ic f_X12_doubt (nx := 79) (v := 1) rfl (by decide) rfl ?_
                  refine ev_jmp f_X12_doubt (nx := 83) rfl rfl rfl ?_
                  refine ev_addC f_X12_doubt (nx := 84) (c := 1) (l := 1) (u := 501) rfl (by decide) l25_4 u25_4 rfl rfl (by decide) (by decide) rfl (fun z47 e47 l47 u47 => ?_)
                  refine ev_loc f_X12_doubt (nx := 86) (lo' := [(4, .int z47), (5, .int y25_5), (0, .ref 69), (1, .long ar1), (3, .int ar2)]) rfl rfl rfl rfl ?_
                  refine ev_incR f_X12_doubt (nx := 89) (c := 1) (l := 1) (u := 500) rfl rfl (by decide) (by decide) l25_5 u33 rfl rfl (by decide) (by decide) rfl (fun z48 e48 l48 u48 => ?_)
                  refine ev_jmp f_X12_doubt (nx := 45) rfl rfl rfl ?_
                  refine ev_sub (lo := [(5, .int z48), (4, .int z47), (0, .ref 69), (1, .long ar1), (3, .int ar2)]) rfl (t_sc rfl (t_sc rfl (t_sc rfl (t_sc rfl (t_sc rfl t_sn))))) ?_
                  exact ih25 _ (by omega) (z48) (z47) (Int.le_trans (by decide : (0:Int) ≤ 1) l48) u48 (Int.le_trans (by decide : (0:Int) ≤ 1) l47) (by omega : z47.toInt ≤ (500:Int)) (by omega) (by omega) j25_2 rfl
                · have r49 : w42.toInt ≠ ar2.toInt := t_nei h43
                  refine ev_ic f_X12_doubt (nx := 83) (v := 0) rfl (by decide) rfl ?_
                  refine ev_addC f_X12_doubt (nx := 84) (c := 0) (l := 0) (u := 500) rfl (by decide) l25_4 u25_4 rfl rfl (by decide) (by decide) rfl (fun z50 e50 l50 u50 => ?_)
                  refine ev_loc f_X12_doubt (nx := 86) (lo' := [(4, .int z50), (5, .int y25_5), (0, .ref 69), (1, .long ar1), (3, .int ar2)]) rfl rfl rfl rfl ?_
                  refine ev_incR f_X12_doubt (nx := 89) (c := 1) (l := 1) (u := 500) rfl rfl (by decide) (by decide) l25_5 u33 rfl rfl (by decide) (by decide) rfl (fun z51 e51 l51 u51 => ?_)
                  refine ev_jmp f_X12_doubt (nx := 45) rfl rfl rfl ?_
                  refine ev_sub (lo := [(5, .int z51), (4, .int z50), (0, .ref 69), (1, .long ar1), (3, .int ar2)]) rfl (t_sc rfl (t_sc rfl (t_sc rfl (t_sc rfl (t_sc rfl t_sn))))) ?_
                  exact ih25 _ (by omega) (z51) (z50) (Int.le_trans (by decide : (0:Int) ≤ 1) l51) u51 l50 u50 (by omega) (by omega) j25_2 rfl
          refine ev_sub (lo := [(5, .int 0), (4, .int 0), (0, .ref 69), (1, .long ar1), (3, .int ar2)]) rfl (t_sc rfl (t_sc rfl (t_sc rfl (t_sc rfl (t_sc rfl t_sn))))) ?_
          exact L25 _ (0) (0) (by decide : (0:Int) ≤ (0:Int32).toInt) (Int.le_trans (by decide : (0:Int32).toInt ≤ (0:Int)) (by decide : (0:Int) ≤ 500)) (by decide : (0:Int) ≤ (0:Int32).toInt) (Int.le_trans (by decide : (0:Int32).toInt ≤ (0:Int)) (by decide : (0:Int) ≤ 500)) (by have kf52 : (0 : Int32).toInt = 0 := (by decide); omega) (by have kf53 : (0 : Int32).toInt = 0 := (by decide); omega) (by
                                                            intro D hm hb
                                                            have h0 : (gi 70 0).toInt = D 0 := hm.1.1.1
                                                            have hlt := (t_lt1p e1 h2)
                                                            have hq := q17.2.2 D hm hb
                                                            exact ⟨by omega, by omega, by omega, fun hh => absurd (hq.trans hh) (by have z0 : (0 : Int32).toInt = 0 := rfl; omega)⟩) rfl
/-! ===== clearBeats, doubt: the answers are alike ===== -/
section CLBL
variable {sh : List (Nat ⊕ (Nat × Nat))} {gi g1 g2 : Nat → Nat → Int32} {gl l1 l2 : Nat → Nat → Int64} {gr r1 r2 : Nat → Nat → Value} {w1 : List (Nat × Nat)} {A A2 : Int32} {Y : Int64} {x1 x2 : Int32}
theorem t_L_clearBeats (hD : t_DR sh.length gi gl gr) (f1 : t_F w1 gi gl gr g1 l1 r1) (h70 : t_nc w1 70 = true) (q1 : Q_d_clearBeats gi gl gr A A2 x1 g1 l1 r1) (q2 : Q_e_clearBeats g1 l1 r1 A A2 x2 g2 l2 r2) : x1 = x2 := by
  obtain ⟨u, D, hu, hl, hc, hb, hm, -⟩ := t_D_0 hD f1 h70
  have k1 := q1 u D hu hl hc hb
  have k2 := q2 D hm hb
  apply Int32.toInt_inj.mp
  by_cases hin : 0 ≤ A.toInt ∧ A.toInt < D 0 ∧ 0 ≤ A2.toInt ∧ A2.toInt < D 0
  · rw [k1.1 hin, k2.1 hin]
  · rw [k1.2 hin, k2.2 hin]
theorem t_L_doubt (hD : t_DR sh.length gi gl gr) (f1 : t_F w1 gi gl gr g1 l1 r1) (h70 : t_nc w1 70 = true) (q1 : Q_d_doubt gi gl gr Y A x1 g1 l1 r1) (q2 : Q_e_doubt g1 l1 r1 Y A x2 g2 l2 r2) : x1 = x2 := by
  obtain ⟨u, D, hu, hl, hc, hb, hm, -⟩ := t_D_0 hD f1 h70
  have k1 := q1 u D hu hl hc hb
  have k2 := q2 D hm hb
  apply Int32.toInt_inj.mp
  by_cases hin : 1 ≤ Y.toInt ∧ 0 ≤ A.toInt ∧ A.toInt < D 0 ∧ ¬ s_ct D Y (-1) = 0
  · rw [k1.1 hin, k2.1 hin]
  · rw [k1.2 hin, k2.2 hin]
end CLBL
