/-! ===== printed by riv.py: the other side: how many READINGS ===== -/
noncomputable def wl_n_findsReadings : List (Nat × Nat) := [(69, 29), (78, 9999), (79, 9999), (80, 9999)]
noncomputable def Q_n_findsReadings (gi : Nat → Nat → Int32) (gl : Nat → Nat → Int64) (gr : Nat → Nat → Value) (ar1 : Int64) : (Nat → Nat → Int32) → (Nat → Nat → Int64) → (Nat → Nat → Value) → Prop := fun (gi2 : Nat → Nat → Int32) (gl2 : Nat → Nat → Int64) (gr2 : Nat → Nat → Value) => (gi2 69 29).toInt ≤ 474 ∧ (∀ j, gi2 70 j = gi 70 j) ∧ (∀ D : s_D, t_ME 0 gi D → t_Cb D → (gi2 69 29).toInt = s_ct D ar1 (-1))
theorem c_n_findsReadings {X : x_Ext} {d : Nat} {sh : List (Nat ⊕ (Nat × Nat))} {gi : Nat → Nat → Int32} {gl : Nat → Nat → Int64} {gr : Nat → Nat → Value} (hI : t_I sh gi gr) (ar1 : Int64) : x_Me X (d + 4) n_X12_findsReadings [.ref 69, .long ar1] (sh, gi, gl, gr) (t_PN wl_n_findsReadings sh gi gl gr (Q_n_findsReadings gi gl gr ar1)) := by
  have hX : t_X wl_n_findsReadings sh gi gl gr gi gl gr := t_X.rf
  refine me_i f_X12_findsReadings (hI.wf.s rfl) rfl rfl rfl ?_
  obtain ⟨l1, u1⟩ := hI.b (hI.wf.s (k := 69) rfl) (t_bdK rfl : t_bd 11 29 = some (0, 500))
  refine ev_loc f_X12_findsReadings (nx := 1) rfl rfl rfl rfl ?_
  refine ev_ic f_X12_findsReadings (nx := 2) (v := 0) rfl (by decide) rfl ?_
  refine ev_putIT f_X12_findsReadings (nx := 5) rfl (hI.wf.s rfl) rfl rfl rfl (hI.putB (hI.wf.s rfl) rfl rfl (by decide : (0:Int) ≤ (0:Int32).toInt) (by decide) (by decide : (0:Int32).toInt ≤ (0:Int)) (by decide)) (hX.upI rfl) (fun g2 e2 hI hX => ?_)
  refine ev_loc f_X12_findsReadings (nx := 6) rfl rfl rfl rfl ?_
  refine ev_getR f_X12_findsReadings (nx := 9) rfl (hI.wf.s rfl) rfl rfl (hI.wf.r rfl) rfl rfl ?_
  refine ev_ic f_X12_findsReadings (nx := 10) (v := 0) rfl (by decide) rfl ?_
  obtain ⟨l3, u3⟩ := hI.ab (by decide +kernel : t_abr 70 0 0 0 6 = true) (Nat.le_refl _) (Nat.le_refl _)
  refine ev_ialdv f_X12_findsReadings (nx := 11) (w := (g2 70 0)) rfl (hI.wf.s rfl) (by decide) (rfl : (0 : Int32).toNatClampNeg = 0) (by decide) rfl rfl ?_
  refine ev_loc f_X12_findsReadings (nx := 12) (lo' := [(3, .int (g2 70 0)), (0, .ref 69), (1, .long ar1)]) rfl rfl rfl rfl ?_
  refine ev_ic f_X12_findsReadings (nx := 13) (v := 0) rfl (by decide) rfl ?_
  refine ev_loc f_X12_findsReadings (nx := 15) (lo' := [(4, .int 0), (3, .int (g2 70 0)), (0, .ref 69), (1, .long ar1)]) rfl rfl rfl rfl ?_
  have L4 : ∀ (m4 : Nat) (gi4 : Nat → Nat → Int32) (gl4 : Nat → Nat → Int64) (gr4 : Nat → Nat → Value) (y4_4 : Int32), t_I sh gi4 gr4 → t_X wl_n_findsReadings sh gi gl gr gi4 gl4 gr4 → 0 ≤ y4_4.toInt → y4_4.toInt ≤ 6 → gi4 70 0 = (g2 70 0) → (gi4 69 29).toInt ≤ y4_4.toInt → (∀ j, gi4 70 j = gi 70 j) → (∀ D : s_D, t_ME 0 gi D → t_Cb D → (gi4 69 29).toInt = s_m1 D ar1 y4_4.toNatClampNeg ∧ y4_4.toInt ≤ D 0 ∧ (g2 70 0).toInt = D 0) → (6 - y4_4.toInt).toNat = m4 → x_Ev X (d + 4) n_X12_findsReadings 15 [(4, .int y4_4), (3, .int (g2 70 0)), (0, .ref 69), (1, .long ar1)] [] (sh, gi4, gl4, gr4) (t_PN wl_n_findsReadings sh gi gl gr (Q_n_findsReadings gi gl gr ar1)) := by
    intro m4
    induction m4 using Nat.strongRecOn with
    | _ m4 ih4 =>
    intro gi4 gl4 gr4 y4_4 hI hX l4_4 u4_4 c4_0 j4_0 j4_1 j4_2 hm4
    obtain ⟨l5, u5⟩ := hI.b (hI.wf.s (k := 69) rfl) (t_bdK rfl : t_bd 11 29 = some (0, 500))
    refine ev_loc f_X12_findsReadings (nx := 17) rfl rfl rfl rfl ?_
    refine ev_loc f_X12_findsReadings (nx := 18) rfl rfl rfl rfl ?_
    refine ev_if f_X12_findsReadings (t1 := 46) (t2 := 21) rfl rfl rfl (fun h6 => ?_) (fun h6 => ?_)
    · have r7 : (g2 70 0).toInt ≤ y4_4.toInt := Int32.le_iff_toInt_le.mp h6
      refine ev_ic f_X12_findsReadings (nx := 47) (v := 0) rfl (by decide) rfl ?_
      refine ev_loc f_X12_findsReadings (nx := 49) (lo' := [(4, .int 0), (3, .int (g2 70 0)), (0, .ref 69), (1, .long ar1)]) rfl rfl rfl rfl ?_
      have L8 : ∀ (m8 : Nat) (gi8 : Nat → Nat → Int32) (gl8 : Nat → Nat → Int64) (gr8 : Nat → Nat → Value) (y8_4 : Int32), t_I sh gi8 gr8 → t_X wl_n_findsReadings sh gi gl gr gi8 gl8 gr8 → 0 ≤ y8_4.toInt → y8_4.toInt ≤ 6 → gi8 70 0 = (g2 70 0) → (gi8 69 29).toInt ≤ 6 + 78 * y8_4.toInt → (∀ j, gi8 70 j = gi 70 j) → (∀ D : s_D, t_ME 0 gi D → t_Cb D → (gi8 69 29).toInt = s_m1 D ar1 (D 0).toNat + s_m2 D ar1 (D 0).toNat y8_4.toNatClampNeg ∧ y8_4.toInt ≤ D 0 ∧ (g2 70 0).toInt = D 0) → (6 - y8_4.toInt).toNat = m8 → x_Ev X (d + 4) n_X12_findsReadings 49 [(4, .int y8_4), (3, .int (g2 70 0)), (0, .ref 69), (1, .long ar1)] [] (sh, gi8, gl8, gr8) (t_PN wl_n_findsReadings sh gi gl gr (Q_n_findsReadings gi gl gr ar1)) := by
        intro m8
        induction m8 using Nat.strongRecOn with
        | _ m8 ih8 =>
        intro gi8 gl8 gr8 y8_4 hI hX l8_4 u8_4 c8_0 j8_0 j8_1 j8_2 hm8
        obtain ⟨l9, u9⟩ := hI.b (hI.wf.s (k := 69) rfl) (t_bdK rfl : t_bd 11 29 = some (0, 500))
        refine ev_loc f_X12_findsReadings (nx := 51) rfl rfl rfl rfl ?_
        refine ev_loc f_X12_findsReadings (nx := 52) rfl rfl rfl rfl ?_
        refine ev_if f_X12_findsReadings (t1 := 134) (t2 := 55) rfl rfl rfl (fun h10 => ?_) (fun h10 => ?_)
        · have r11 : (g2 70 0).toInt ≤ y8_4.toInt := Int32.le_iff_toInt_le.mp h10
          exact ev_ret f_X12_findsReadings rfl rfl rfl ⟨_, _, _, rfl, hI, hX, ⟨rfl, (show (gi8 69 29).toInt ≤ 474 ∧ (∀ j, gi8 70 j = gi 70 j) ∧ (∀ D : s_D, t_ME 0 gi D → t_Cb D → (gi8 69 29).toInt = s_ct D ar1 (-1)) from ⟨(by omega), j8_1, (by
                                                            intro D hm hb
                                                            have z0 : (0 : Int32).toInt = 0 := rfl
                                                            have z1 : (1 : Int32).toInt = 1 := rfl
                                                            obtain ⟨g1, g2, hn⟩ := j8_2 D hm hb
                                                            have b0 := hb.1.1
                                                            exact (show _ from s_m2_e g1 (by omega) (by omega) rfl))⟩)⟩⟩
        · have r12 : y8_4.toInt < (g2 70 0).toInt := Int32.lt_iff_toInt_lt.mp (t_nle h10)
          have u13 : y8_4.toInt ≤ 5 := t_ltu (t_nle h10) u3 rfl
          have l14 : 1 ≤ (g2 70 0).toInt := t_ltl (t_nle h10) l8_4 rfl
          refine ev_ic f_X12_findsReadings (nx := 56) (v := 0) rfl (by decide) rfl ?_
          refine ev_loc f_X12_findsReadings (nx := 58) (lo' := [(5, .int 0), (4, .int y8_4), (3, .int (g2 70 0)), (0, .ref 69), (1, .long ar1)]) rfl rfl rfl rfl ?_
          have L15 : ∀ (m15 : Nat) (gi15 : Nat → Nat → Int32) (gl15 : Nat → Nat → Int64) (gr15 : Nat → Nat → Value) (y15_5 : Int32), t_I sh gi15 gr15 → t_X wl_n_findsReadings sh gi gl gr gi15 gl15 gr15 → 0 ≤ y15_5.toInt → y15_5.toInt ≤ 6 → gi15 70 0 = (g2 70 0) → (gi15 69 29).toInt ≤ 6 + 78 * y8_4.toInt + 13 * y15_5.toInt → (∀ j, gi15 70 j = gi 70 j) → (∀ D : s_D, t_ME 0 gi D → t_Cb D → (gi15 69 29).toInt = s_m1 D ar1 (D 0).toNat + s_m2 D ar1 (D 0).toNat y8_4.toNatClampNeg + s_cc D ar1 (-1) y8_4.toNatClampNeg y15_5.toNatClampNeg ∧ y8_4.toInt < D 0 ∧ y15_5.toInt ≤ D 0 ∧ (g2 70 0).toInt = D 0) → (6 - y15_5.toInt).toNat = m15 → x_Ev X (d + 4) n_X12_findsReadings 58 [(5, .int y15_5), (4, .int y8_4), (3, .int (g2 70 0)), (0, .ref 69), (1, .long ar1)] [] (sh, gi15, gl15, gr15) (t_PN wl_n_findsReadings sh gi gl gr (Q_n_findsReadings gi gl gr ar1)) := by
            intro m15
            induction m15 using Nat.strongRecOn with
            | _ m15 ih15 =>
            intro gi15 gl15 gr15 y15_5 hI hX l15_5 u15_5 c15_0 j15_0 j15_1 j15_2 hm15
            obtain ⟨l16, u16⟩ := hI.b (hI.wf.s (k := 69) rfl) (t_bdK rfl : t_bd 11 29 = some (0, 500))
            refine ev_loc f_X12_findsReadings (nx := 60) rfl rfl rfl rfl ?_
            refine ev_loc f_X12_findsReadings (nx := 61) rfl rfl rfl rfl ?_
            refine ev_if f_X12_findsReadings (t1 := 128) (t2 := 64) rfl rfl rfl (fun h17 => ?_) (fun h17 => ?_)
            · have r18 : (g2 70 0).toInt ≤ y15_5.toInt := Int32.le_iff_toInt_le.mp h17
              have l19 : 1 ≤ y15_5.toInt := t_lel h17 l14
              refine ev_incR f_X12_findsReadings (nx := 131) (c := 1) (l := 1) (u := 6) rfl rfl (by decide) (by decide) l8_4 u13 rfl rfl (by decide) (by decide) rfl (fun z20 e20 l20 u20 => ?_)
              refine ev_jmp f_X12_findsReadings (nx := 49) rfl rfl rfl ?_
              refine ev_sub (lo := [(4, .int z20), (3, .int (g2 70 0)), (0, .ref 69), (1, .long ar1)]) rfl (t_sc rfl (t_sc rfl (t_sc rfl (t_sc rfl t_sn)))) ?_
              exact ih8 _ (by omega) gi15 gl15 gr15 (z20) hI hX  (Int.le_trans (by decide : (0:Int) ≤ 1) l20) u20 c15_0 (by omega) j15_1 (by
                                                            intro D hm hb
                                                            have z0 : (0 : Int32).toInt = 0 := rfl
                                                            have z1 : (1 : Int32).toInt = 1 := rfl
                                                            obtain ⟨g1, g2, g3, hn⟩ := j15_2 D hm hb
                                                            exact ⟨s_m2_s g1 (by omega) (by omega) (by omega) (by omega) (by omega), by omega, hn⟩) rfl
            · have r21 : y15_5.toInt < (g2 70 0).toInt := Int32.lt_iff_toInt_lt.mp (t_nle h17)
              have u22 : y15_5.toInt ≤ 5 := t_ltu (t_nle h17) u3 rfl
              refine ev_loc f_X12_findsReadings (nx := 66) rfl rfl rfl rfl ?_
              refine ev_loc f_X12_findsReadings (nx := 68) rfl rfl rfl rfl ?_
              refine ev_if f_X12_findsReadings (t1 := 75) (t2 := 71) rfl rfl rfl (fun h23 => ?_) (fun h23 => ?_)
              · have r24 : y8_4.toInt ≤ y15_5.toInt := Int32.le_iff_toInt_le.mp h23
                refine ev_ic f_X12_findsReadings (nx := 76) (v := 0) rfl (by decide) rfl ?_
                refine ev_loc f_X12_findsReadings (nx := 78) (lo' := [(6, .int 0), (5, .int y15_5), (4, .int y8_4), (3, .int (g2 70 0)), (0, .ref 69), (1, .long ar1)]) rfl rfl rfl rfl ?_
                have L25 : ∀ (m25 : Nat) (gi25 : Nat → Nat → Int32) (gl25 : Nat → Nat → Int64) (gr25 : Nat → Nat → Value) (y25_6 : Int32), t_I sh gi25 gr25 → t_X wl_n_findsReadings sh gi gl gr gi25 gl25 gr25 → 0 ≤ y25_6.toInt → y25_6.toInt ≤ 13 → gi25 70 0 = (g2 70 0) → (gi25 69 29).toInt ≤ 6 + 78 * y8_4.toInt + 13 * y15_5.toInt + y25_6.toInt → (∀ j, gi25 70 j = gi 70 j) → (∀ D : s_D, t_ME 0 gi D → t_Cb D → s_m1 D ar1 (D 0).toNat + s_m2 D ar1 (D 0).toNat y8_4.toNatClampNeg + s_cc D ar1 (-1) y8_4.toNatClampNeg y15_5.toNatClampNeg + s_cB D ar1 y8_4.toInt y15_5.toInt = (gi25 69 29).toInt + s_cb D ar1 y8_4.toInt y15_5.toInt (13 - y25_6.toInt).toNat y25_6.toInt ∧ y8_4.toInt < D 0 ∧ y15_5.toInt < D 0 ∧ (g2 70 0).toInt = D 0) → (13 - y25_6.toInt).toNat = m25 → x_Ev X (d + 4) n_X12_findsReadings 78 [(6, .int y25_6), (5, .int y15_5), (4, .int y8_4), (3, .int (g2 70 0)), (0, .ref 69), (1, .long ar1)] [] (sh, gi25, gl25, gr25) (t_PN wl_n_findsReadings sh gi gl gr (Q_n_findsReadings gi gl gr ar1)) := by
                  intro m25
                  induction m25 using Nat.strongRecOn with
                  | _ m25 ih25 =>
                  intro gi25 gl25 gr25 y25_6 hI hX l25_6 u25_6 c25_0 j25_0 j25_1 j25_2 hm25
                  obtain ⟨l26, u26⟩ := hI.b (hI.wf.s (k := 69) rfl) (t_bdK rfl : t_bd 11 29 = some (0, 500))
                  refine ev_loc f_X12_findsReadings (nx := 80) rfl rfl rfl rfl ?_
                  refine ev_bp f_X12_findsReadings (nx := 82) (v := 12) rfl (by decide) rfl ?_
                  refine ev_if f_X12_findsReadings (t1 := 122) (t2 := 85) rfl rfl rfl (fun h27 => ?_) (fun h27 => ?_)
                  · have l28 : 13 ≤ y25_6.toInt := t_ltl h27 (by decide : (12:Int) ≤ (12:Int32).toInt) rfl
                    refine ev_incR f_X12_findsReadings (nx := 125) (c := 1) (l := 1) (u := 6) rfl rfl (by decide) (by decide) l15_5 u22 rfl rfl (by decide) (by decide) rfl (fun z29 e29 l29 u29 => ?_)
                    refine ev_jmp f_X12_findsReadings (nx := 58) rfl rfl rfl ?_
                    refine ev_sub (lo := [(5, .int z29), (4, .int y8_4), (3, .int (g2 70 0)), (0, .ref 69), (1, .long ar1)]) rfl (t_sc rfl (t_sc rfl (t_sc rfl (t_sc rfl (t_sc rfl t_sn))))) ?_
                    exact ih15 _ (by omega) gi25 gl25 gr25 (z29) hI hX  (Int.le_trans (by decide : (0:Int) ≤ 1) l29) u29 c25_0 (by omega) j25_1 (by
                                                            intro D hm hb
                                                            have z0 : (0 : Int32).toInt = 0 := rfl
                                                            have z1 : (1 : Int32).toInt = 1 := rfl
                                                            obtain ⟨g1, g2, g3, hn⟩ := j25_2 D hm hb
                                                            exact ⟨s_m3_s g1 (by omega) (by omega) (by omega) (by omega) (by omega), by omega, by omega, hn⟩) rfl
                  · have u30 : y25_6.toInt ≤ 12 := t_leu (t_nlt h27) (by decide : (12:Int32).toInt ≤ (12:Int))
                    refine ev_loc f_X12_findsReadings (nx := 86) rfl rfl rfl rfl ?_
                    refine ev_loc f_X12_findsReadings (nx := 88) rfl rfl rfl rfl ?_
                    refine ev_qL0 f_X12_findsReadings (nx := 91) (r := []) rfl rfl rfl rfl rfl rfl rfl (c_n_heardOf hI (y8_4) l8_4 u13) rfl (fun w31 q31 => ?_)
                    have q31 : (0 ≤ w31.toInt ∧ w31.toInt < 8589934592) ∧ ∀ D : s_D, t_ME 0 gi25 D → y8_4.toInt < D 0 → w31 = s_ec (s_so D y8_4.toNatClampNeg) (D 7) := q31
                    refine ev_loc f_X12_findsReadings (nx := 92) rfl rfl rfl rfl ?_
                    refine ev_loc f_X12_findsReadings (nx := 94) rfl rfl rfl rfl ?_
                    refine ev_qL0 f_X12_findsReadings (nx := 97) (r := [.long w31]) rfl rfl rfl rfl rfl rfl rfl (c_n_heardOf hI (y15_5) l15_5 u22) rfl (fun w32 q32 => ?_)
                    have q32 : (0 ≤ w32.toInt ∧ w32.toInt < 8589934592) ∧ ∀ D : s_D, t_ME 0 gi25 D → y15_5.toInt < D 0 → w32 = s_ec (s_so D y15_5.toNatClampNeg) (D 7) := q32
                    refine ev_loc f_X12_findsReadings (nx := 99) rfl rfl rfl rfl ?_
                    refine ev_anyLE f_X12_findsReadings (nx := 100) rfl rfl rfl rfl (fun z33 e33 => ?_)
                    refine ev_anyLE f_X12_findsReadings (nx := 101) rfl rfl rfl rfl (fun z34 e34 => ?_)
                    refine ev_loc f_X12_findsReadings (nx := 102) rfl rfl rfl rfl ?_
                    refine ev_anyIE f_X12_findsReadings (nx := 103) rfl rfl rfl rfl (fun z35 e35 => ?_)
                    refine ev_if f_X12_findsReadings (t1 := 106) (t2 := 116) rfl rfl rfl (fun h36 => ?_) (fun h36 => ?_)
                    · have u37 : z35.toInt ≤ 0 := t_equ h36 (by decide : (0:Int32).toInt ≤ (0:Int))
                      have l38 : 0 ≤ z35.toInt := t_eql h36 (by decide : (0:Int) ≤ (0:Int32).toInt)
                      refine ev_loc f_X12_findsReadings (nx := 107) rfl rfl rfl rfl ?_
                      refine ev_loc f_X12_findsReadings (nx := 109) rfl rfl rfl rfl ?_
                      refine ev_loc f_X12_findsReadings (nx := 111) rfl rfl rfl rfl ?_
                      refine ev_loc f_X12_findsReadings (nx := 113) rfl rfl rfl rfl ?_
                      refine ev_inV4 f_X12_findsReadings (nx := 116) (lo2 := [(0, .ref 69), (1, .int y8_4), (2, .int y15_5), (3, .int y25_6)]) rfl rfl rfl rfl f_X12_reads (hI.wf.s rfl) rfl rfl rfl rfl rfl ?_
                      refine ev_loc f_X12_reads (nx := 1) rfl rfl rfl rfl ?_
                      refine ev_getR f_X12_reads (nx := 4) rfl (hI.wf.s rfl) rfl rfl (hI.wf.r rfl) rfl rfl ?_
                      refine ev_loc f_X12_reads (nx := 5) rfl rfl rfl rfl ?_
                      refine ev_gvI f_X12_reads (nx := 8) (w := (gi25 69 29)) rfl (hI.wf.s rfl) rfl rfl rfl rfl ?_
                      refine ev_loc f_X12_reads (nx := 9) rfl rfl rfl rfl ?_
                      have u40 : (gi25 69 29).toInt ≤ (499:Int) := (by omega)
                      refine ev_iastT f_X12_reads (nx := 10) rfl (hI.wf.s rfl) l26 (by decide) u40 (by decide) rfl (hI.astG (hI.wf.s rfl) (fun lo hi e => absurd e (t_nob (by decide +kernel) _)) (fun k hk e => by have := hk.2.1; omega)) (hX.upI (t_inA_ok rfl)) (fun g39 e39 hI hX => ?_)
                      refine ev_loc f_X12_reads (nx := 11) rfl rfl rfl rfl ?_
                      refine ev_getR f_X12_reads (nx := 14) rfl (hI.wf.s rfl) rfl rfl (hI.wf.r rfl) rfl rfl ?_
                      refine ev_loc f_X12_reads (nx := 15) rfl rfl rfl rfl ?_
                      refine ev_gvI f_X12_reads (nx := 18) (w := (gi25 69 29)) rfl (hI.wf.s rfl) rfl rfl ((by rw [e39]; exact x_up2_off (Or.inl (by decide)) : g39 69 29 = gi25 69 29).trans rfl) rfl ?_
                      refine ev_loc f_X12_reads (nx := 19) rfl rfl rfl rfl ?_
                      refine ev_iastT f_X12_reads (nx := 20) rfl (hI.wf.s rfl) l26 (by decide) u40 (by decide) rfl (hI.astG (hI.wf.s rfl) (fun lo hi e => absurd e (t_nob (by decide +kernel) _)) (fun k hk e => by have := hk.2.1; omega)) (hX.upI (t_inA_ok rfl)) (fun g41 e41 hI hX => ?_)
                      refine ev_loc f_X12_reads (nx := 21) rfl rfl rfl rfl ?_
                      refine ev_getR f_X12_reads (nx := 24) rfl (hI.wf.s rfl) rfl rfl (hI.wf.r rfl) rfl rfl ?_
                      refine ev_loc f_X12_reads (nx := 25) rfl rfl rfl rfl ?_
                      refine ev_gvI f_X12_reads (nx := 28) (w := (gi25 69 29)) rfl (hI.wf.s rfl) rfl rfl ((by rw [e41]; exact x_up2_off (Or.inl (by decide)) : g41 69 29 = g39 69 29).trans ((by rw [e39]; exact x_up2_off (Or.inl (by decide)) : g39 69 29 = gi25 69 29).trans rfl)) rfl ?_
                      refine ev_loc f_X12_reads (nx := 29) rfl rfl rfl rfl ?_
                      refine ev_iastT f_X12_reads (nx := 30) rfl (hI.wf.s rfl) l26 (by decide) u40 (by decide) rfl (hI.astG (hI.wf.s rfl) (fun lo hi e => absurd e (t_nob (by decide +kernel) _)) (fun k hk e => by have := hk.2.1; omega)) (hX.upI (t_inA_ok rfl)) (fun g42 e42 hI hX => ?_)
                      refine ev_loc f_X12_reads (nx := 31) rfl rfl rfl rfl ?_
                      refine ev_alu f_X12_reads (nx := 32) rfl rfl rfl rfl ?_
                      refine ev_gvI f_X12_reads (nx := 35) (w := (gi25 69 29)) rfl (hI.wf.s rfl) rfl rfl ((by rw [e42]; exact x_up2_off (Or.inl (by decide)) : g42 69 29 = g41 69 29).trans ((by rw [e41]; exact x_up2_off (Or.inl (by decide)) : g41 69 29 = g39 69 29).trans ((by rw [e39]; exact x_up2_off (Or.inl (by decide)) : g39 69 29 = gi25 69 29).trans rfl))) rfl ?_
                      refine ev_ic f_X12_reads (nx := 36) (v := 1) rfl (by decide) rfl ?_
                      refine ev_addC f_X12_reads (nx := 37) (c := 1) (l := 1) (u := 500) rfl (by decide) l26 u40 rfl rfl (by decide) (by decide) rfl (fun z43 e43 l43 u43 => ?_)
                      refine ev_putIT f_X12_reads (nx := 40) rfl (hI.wf.s rfl) rfl rfl rfl (hI.putB (hI.wf.s rfl) rfl rfl l43 (by decide) u43 (by decide)) (hX.upI rfl) (fun g44 e44 hI hX => ?_)
                      refine ev_retK0 f_X12_reads rfl rfl rfl ?_
                      refine ev_incR f_X12_findsReadings (nx := 119) (c := 1) (l := 1) (u := 13) rfl rfl (by decide) (by decide) l25_6 u30 rfl rfl (by decide) (by decide) rfl (fun z45 e45 l45 u45 => ?_)
                      refine ev_jmp f_X12_findsReadings (nx := 78) rfl rfl rfl ?_
                      refine ev_sub (lo := [(6, .int z45), (5, .int y15_5), (4, .int y8_4), (3, .int (g2 70 0)), (0, .ref 69), (1, .long ar1)]) rfl (t_sc rfl (t_sc rfl (t_sc rfl (t_sc rfl (t_sc rfl (t_sc rfl t_sn)))))) ?_
                      exact ih25 _ (by omega) g44 gl25 gr25 (z45) hI hX  (Int.le_trans (by decide : (0:Int) ≤ 1) l45) u45 ((by rw [e44]; exact x_up2_off (Or.inr (by decide)) : g44 70 0 = g42 70 0).trans ((by rw [e42]; exact x_up2_off (Or.inl (by decide)) : g42 70 0 = g41 70 0).trans ((by rw [e41]; exact x_up2_off (Or.inl (by decide)) : g41 70 0 = g39 70 0).trans ((by rw [e39]; exact x_up2_off (Or.inl (by decide)) : g39 70 0 = gi25 70 0).trans c25_0)))) (by have ff46 : (g44 69 29).toInt = z43.toInt := congrArg Int32.toInt (by rw [e44]; exact x_up2_at _ _ _ _ : g44 69 29 = z43); omega) (fun j => (congrFun ((by rw [e44]; exact x_up2_ne (by decide) : g44 70 = g42 70).trans ((by rw [e42]; exact x_up2_ne (by decide) : g42 70 = g41 70).trans ((by rw [e41]; exact x_up2_ne (by decide) : g41 70 = g39 70).trans ((by rw [e39]; exact x_up2_ne (by decide) : g39 70 = gi25 70))))) j).trans (j25_1 j)) (by
                                                            intro D hm hb
                                                            have z0 : (0 : Int32).toInt = 0 := rfl
                                                            have z1 : (1 : Int32).toInt = 1 := rfl
                                                            have ff47 : (g44 69 29).toInt = z43.toInt := congrArg Int32.toInt (by rw [e44]; exact x_up2_at _ _ _ _ : g44 69 29 = z43)
                                                            obtain ⟨g1, g2, g3, hn⟩ := j25_2 D hm hb
                                                            have hmN : t_ME 0 gi25 D := hm.mv hb (fun j _ _ _ => j25_1 (0 + j))
                                                            have hw31 : w31 = s_hd D y8_4.toInt := (q31.2 D hmN (by omega)).trans ((s_hd_i (D := D) (p := y8_4.toInt) (by omega) (by omega)).trans (by rw [show y8_4.toInt.toNat = y8_4.toNatClampNeg from (by have := t_clamp (i := y8_4) (by omega); omega)])).symm
                                                            have hw32 : w32 = s_hd D y15_5.toInt := (q32.2 D hmN (by omega)).trans ((s_hd_i (D := D) (p := y15_5.toInt) (by omega) (by omega)).trans (by rw [show y15_5.toInt.toNat = y15_5.toNatClampNeg from (by have := t_clamp (i := y15_5) (by omega); omega)])).symm
                                                            have hv := s_bw_e hw31 hw32 e33 e34
                                                            have hne := (t_le0 e35 h36)
                                                            rw [hv] at hne
                                                            exact ⟨s_m4_y g1 (by omega) hne (by omega) (by omega), by omega, by omega, hn⟩) rfl
                    · have r48 : z35.toInt ≠ 0 := fun e => h36 (Int32.toInt_inj.mp (e.trans (by decide : (0:Int) = (0 : Int32).toInt)))
                      refine ev_incR f_X12_findsReadings (nx := 119) (c := 1) (l := 1) (u := 13) rfl rfl (by decide) (by decide) l25_6 u30 rfl rfl (by decide) (by decide) rfl (fun z49 e49 l49 u49 => ?_)
                      refine ev_jmp f_X12_findsReadings (nx := 78) rfl rfl rfl ?_
                      refine ev_sub (lo := [(6, .int z49), (5, .int y15_5), (4, .int y8_4), (3, .int (g2 70 0)), (0, .ref 69), (1, .long ar1)]) rfl (t_sc rfl (t_sc rfl (t_sc rfl (t_sc rfl (t_sc rfl (t_sc rfl t_sn)))))) ?_
                      exact ih25 _ (by omega) gi25 gl25 gr25 (z49) hI hX  (Int.le_trans (by decide : (0:Int) ≤ 1) l49) u49 c25_0 (by omega) j25_1 (by
                                                            intro D hm hb
                                                            have z0 : (0 : Int32).toInt = 0 := rfl
                                                            have z1 : (1 : Int32).toInt = 1 := rfl
                                                            obtain ⟨g1, g2, g3, hn⟩ := j25_2 D hm hb
                                                            have hmN : t_ME 0 gi25 D := hm.mv hb (fun j _ _ _ => j25_1 (0 + j))
                                                            have hw31 : w31 = s_hd D y8_4.toInt := (q31.2 D hmN (by omega)).trans ((s_hd_i (D := D) (p := y8_4.toInt) (by omega) (by omega)).trans (by rw [show y8_4.toInt.toNat = y8_4.toNatClampNeg from (by have := t_clamp (i := y8_4) (by omega); omega)])).symm
                                                            have hw32 : w32 = s_hd D y15_5.toInt := (q32.2 D hmN (by omega)).trans ((s_hd_i (D := D) (p := y15_5.toInt) (by omega) (by omega)).trans (by rw [show y15_5.toInt.toNat = y15_5.toNatClampNeg from (by have := t_clamp (i := y15_5) (by omega); omega)])).symm
                                                            have hv := s_bw_e hw31 hw32 e33 e34
                                                            have hne := (t_le1 e35 h36)
                                                            rw [hv] at hne
                                                            exact ⟨s_m4_n g1 (by omega) hne (by omega) (by omega), by omega, by omega, hn⟩) rfl
                refine ev_sub (lo := [(6, .int 0), (5, .int y15_5), (4, .int y8_4), (3, .int (g2 70 0)), (0, .ref 69), (1, .long ar1)]) rfl (t_sc rfl (t_sc rfl (t_sc rfl (t_sc rfl (t_sc rfl (t_sc rfl t_sn)))))) ?_
                exact L25 _ gi15 gl15 gr15 (0) hI hX  (by decide : (0:Int) ≤ (0:Int32).toInt) (Int.le_trans (by decide : (0:Int32).toInt ≤ (0:Int)) (by decide : (0:Int) ≤ 13)) c15_0 (by have kf50 : (0 : Int32).toInt = 0 := (by decide); omega) j15_1 (by
                                                            intro D hm hb
                                                            have z0 : (0 : Int32).toInt = 0 := rfl
                                                            have z1 : (1 : Int32).toInt = 1 := rfl
                                                            obtain ⟨g1, g2, g3, hn⟩ := j15_2 D hm hb
                                                            have hl2 : s_lb y8_4.toInt y15_5.toInt = (0 : Int32).toInt := s_lb_0 (by omega)
                                                            exact ⟨s_m4_b g1 (by omega) hl2.symm, by omega, by omega, hn⟩) rfl
              · have r51 : y15_5.toInt < y8_4.toInt := Int32.lt_iff_toInt_lt.mp (t_nle h23)
                have u52 : y15_5.toInt ≤ 4 := t_ltu (t_nle h23) u13 rfl
                have l53 : 1 ≤ y8_4.toInt := t_ltl (t_nle h23) l15_5 rfl
                refine ev_ic f_X12_findsReadings (nx := 72) (v := 1) rfl (by decide) rfl ?_
                refine ev_jmp f_X12_findsReadings (nx := 76) rfl rfl rfl ?_
                refine ev_loc f_X12_findsReadings (nx := 78) (lo' := [(6, .int 1), (5, .int y15_5), (4, .int y8_4), (3, .int (g2 70 0)), (0, .ref 69), (1, .long ar1)]) rfl rfl rfl rfl ?_
                have L54 : ∀ (m54 : Nat) (gi54 : Nat → Nat → Int32) (gl54 : Nat → Nat → Int64) (gr54 : Nat → Nat → Value) (y54_6 : Int32), t_I sh gi54 gr54 → t_X wl_n_findsReadings sh gi gl gr gi54 gl54 gr54 → 0 ≤ y54_6.toInt → y54_6.toInt ≤ 13 → gi54 70 0 = (g2 70 0) → (gi54 69 29).toInt ≤ 6 + 78 * y8_4.toInt + 13 * y15_5.toInt + y54_6.toInt → (∀ j, gi54 70 j = gi 70 j) → (∀ D : s_D, t_ME 0 gi D → t_Cb D → s_m1 D ar1 (D 0).toNat + s_m2 D ar1 (D 0).toNat y8_4.toNatClampNeg + s_cc D ar1 (-1) y8_4.toNatClampNeg y15_5.toNatClampNeg + s_cB D ar1 y8_4.toInt y15_5.toInt = (gi54 69 29).toInt + s_cb D ar1 y8_4.toInt y15_5.toInt (13 - y54_6.toInt).toNat y54_6.toInt ∧ y8_4.toInt < D 0 ∧ y15_5.toInt < D 0 ∧ (g2 70 0).toInt = D 0) → (13 - y54_6.toInt).toNat = m54 → x_Ev X (d + 4) n_X12_findsReadings 78 [(6, .int y54_6), (5, .int y15_5), (4, .int y8_4), (3, .int (g2 70 0)), (0, .ref 69), (1, .long ar1)] [] (sh, gi54, gl54, gr54) (t_PN wl_n_findsReadings sh gi gl gr (Q_n_findsReadings gi gl gr ar1)) := by
                  intro m54
                  induction m54 using Nat.strongRecOn with
                  | _ m54 ih54 =>
                  intro gi54 gl54 gr54 y54_6 hI hX l54_6 u54_6 c54_0 j54_0 j54_1 j54_2 hm54
                  obtain ⟨l55, u55⟩ := hI.b (hI.wf.s (k := 69) rfl) (t_bdK rfl : t_bd 11 29 = some (0, 500))
                  refine ev_loc f_X12_findsReadings (nx := 80) rfl rfl rfl rfl ?_
                  refine ev_bp f_X12_findsReadings (nx := 82) (v := 12) rfl (by decide) rfl ?_
                  refine ev_if f_X12_findsReadings (t1 := 122) (t2 := 85) rfl rfl rfl (fun h56 => ?_) (fun h56 => ?_)
                  · have l57 : 13 ≤ y54_6.toInt := t_ltl h56 (by decide : (12:Int) ≤ (12:Int32).toInt) rfl
                    refine ev_incR f_X12_findsReadings (nx := 125) (c := 1) (l := 1) (u := 5) rfl rfl (by decide) (by decide) l15_5 u52 rfl rfl (by decide) (by decide) rfl (fun z58 e58 l58 u58 => ?_)
                    refine ev_jmp f_X12_findsReadings (nx := 58) rfl rfl rfl ?_
                    refine ev_sub (lo := [(5, .int z58), (4, .int y8_4), (3, .int (g2 70 0)), (0, .ref 69), (1, .long ar1)]) rfl (t_sc rfl (t_sc rfl (t_sc rfl (t_sc rfl (t_sc rfl t_sn))))) ?_
                    exact ih15 _ (by omega) gi54 gl54 gr54 (z58) hI hX  (Int.le_trans (by decide : (0:Int) ≤ 1) l58) (Int.le_trans u58 (by decide : (5:Int) ≤ 6)) c54_0 (by omega) j54_1 (by
                                                            intro D hm hb
                                                            have z0 : (0 : Int32).toInt = 0 := rfl
                                                            have z1 : (1 : Int32).toInt = 1 := rfl
                                                            obtain ⟨g1, g2, g3, hn⟩ := j54_2 D hm hb
                                                            exact ⟨s_m3_s g1 (by omega) (by omega) (by omega) (by omega) (by omega), by omega, by omega, hn⟩) rfl
                  · have u59 : y54_6.toInt ≤ 12 := t_leu (t_nlt h56) (by decide : (12:Int32).toInt ≤ (12:Int))
                    refine ev_loc f_X12_findsReadings (nx := 86) rfl rfl rfl rfl ?_
                    refine ev_loc f_X12_findsReadings (nx := 88) rfl rfl rfl rfl ?_
                    refine ev_qL0 f_X12_findsReadings (nx := 91) (r := []) rfl rfl rfl rfl rfl rfl rfl (c_n_heardOf hI (y8_4) (Int.le_trans (by decide : (0:Int) ≤ 1) l53) u13) rfl (fun w60 q60 => ?_)
                    have q60 : (0 ≤ w60.toInt ∧ w60.toInt < 8589934592) ∧ ∀ D : s_D, t_ME 0 gi54 D → y8_4.toInt < D 0 → w60 = s_ec (s_so D y8_4.toNatClampNeg) (D 7) := q60
                    refine ev_loc f_X12_findsReadings (nx := 92) rfl rfl rfl rfl ?_
                    refine ev_loc f_X12_findsReadings (nx := 94) rfl rfl rfl rfl ?_
                    refine ev_qL0 f_X12_findsReadings (nx := 97) (r := [.long w60]) rfl rfl rfl rfl rfl rfl rfl (c_n_heardOf hI (y15_5) l15_5 (Int.le_trans u52 (by decide : (4:Int) ≤ 5))) rfl (fun w61 q61 => ?_)
                    have q61 : (0 ≤ w61.toInt ∧ w61.toInt < 8589934592) ∧ ∀ D : s_D, t_ME 0 gi54 D → y15_5.toInt < D 0 → w61 = s_ec (s_so D y15_5.toNatClampNeg) (D 7) := q61
                    refine ev_loc f_X12_findsReadings (nx := 99) rfl rfl rfl rfl ?_
                    refine ev_anyLE f_X12_findsReadings (nx := 100) rfl rfl rfl rfl (fun z62 e62 => ?_)
                    refine ev_anyLE f_X12_findsReadings (nx := 101) rfl rfl rfl rfl (fun z63 e63 => ?_)
                    refine ev_loc f_X12_findsReadings (nx := 102) rfl rfl rfl rfl ?_
                    refine ev_anyIE f_X12_findsReadings (nx := 103) rfl rfl rfl rfl (fun z64 e64 => ?_)
                    refine ev_if f_X12_findsReadings (t1 := 106) (t2 := 116) rfl rfl rfl (fun h65 => ?_) (fun h65 => ?_)
                    · have u66 : z64.toInt ≤ 0 := t_equ h65 (by decide : (0:Int32).toInt ≤ (0:Int))
                      have l67 : 0 ≤ z64.toInt := t_eql h65 (by decide : (0:Int) ≤ (0:Int32).toInt)
                      refine ev_loc f_X12_findsReadings (nx := 107) rfl rfl rfl rfl ?_
                      refine ev_loc f_X12_findsReadings (nx := 109) rfl rfl rfl rfl ?_
                      refine ev_loc f_X12_findsReadings (nx := 111) rfl rfl rfl rfl ?_
                      refine ev_loc f_X12_findsReadings (nx := 113) rfl rfl rfl rfl ?_
                      refine ev_inV4 f_X12_findsReadings (nx := 116) (lo2 := [(0, .ref 69), (1, .int y8_4), (2, .int y15_5), (3, .int y54_6)]) rfl rfl rfl rfl f_X12_reads (hI.wf.s rfl) rfl rfl rfl rfl rfl ?_
                      refine ev_loc f_X12_reads (nx := 1) rfl rfl rfl rfl ?_
                      refine ev_getR f_X12_reads (nx := 4) rfl (hI.wf.s rfl) rfl rfl (hI.wf.r rfl) rfl rfl ?_
                      refine ev_loc f_X12_reads (nx := 5) rfl rfl rfl rfl ?_
                      refine ev_gvI f_X12_reads (nx := 8) (w := (gi54 69 29)) rfl (hI.wf.s rfl) rfl rfl rfl rfl ?_
                      refine ev_loc f_X12_reads (nx := 9) rfl rfl rfl rfl ?_
                      have u69 : (gi54 69 29).toInt ≤ (499:Int) := (by omega)
                      refine ev_iastT f_X12_reads (nx := 10) rfl (hI.wf.s rfl) l55 (by decide) u69 (by decide) rfl (hI.astG (hI.wf.s rfl) (fun lo hi e => absurd e (t_nob (by decide +kernel) _)) (fun k hk e => by have := hk.2.1; omega)) (hX.upI (t_inA_ok rfl)) (fun g68 e68 hI hX => ?_)
                      refine ev_loc f_X12_reads (nx := 11) rfl rfl rfl rfl ?_
                      refine ev_getR f_X12_reads (nx := 14) rfl (hI.wf.s rfl) rfl rfl (hI.wf.r rfl) rfl rfl ?_
                      refine ev_loc f_X12_reads (nx := 15) rfl rfl rfl rfl ?_
                      refine ev_gvI f_X12_reads (nx := 18) (w := (gi54 69 29)) rfl (hI.wf.s rfl) rfl rfl ((by rw [e68]; exact x_up2_off (Or.inl (by decide)) : g68 69 29 = gi54 69 29).trans rfl) rfl ?_
                      refine ev_loc f_X12_reads (nx := 19) rfl rfl rfl rfl ?_
                      refine ev_iastT f_X12_reads (nx := 20) rfl (hI.wf.s rfl) l55 (by decide) u69 (by decide) rfl (hI.astG (hI.wf.s rfl) (fun lo hi e => absurd e (t_nob (by decide +kernel) _)) (fun k hk e => by have := hk.2.1; omega)) (hX.upI (t_inA_ok rfl)) (fun g70 e70 hI hX => ?_)
                      refine ev_loc f_X12_reads (nx := 21) rfl rfl rfl rfl ?_
                      refine ev_getR f_X12_reads (nx := 24) rfl (hI.wf.s rfl) rfl rfl (hI.wf.r rfl) rfl rfl ?_
                      refine ev_loc f_X12_reads (nx := 25) rfl rfl rfl rfl ?_
                      refine ev_gvI f_X12_reads (nx := 28) (w := (gi54 69 29)) rfl (hI.wf.s rfl) rfl rfl ((by rw [e70]; exact x_up2_off (Or.inl (by decide)) : g70 69 29 = g68 69 29).trans ((by rw [e68]; exact x_up2_off (Or.inl (by decide)) : g68 69 29 = gi54 69 29).trans rfl)) rfl ?_
                      refine ev_loc f_X12_reads (nx := 29) rfl rfl rfl rfl ?_
                      refine ev_iastT f_X12_reads (nx := 30) rfl (hI.wf.s rfl) l55 (by decide) u69 (by decide) rfl (hI.astG (hI.wf.s rfl) (fun lo hi e => absurd e (t_nob (by decide +kernel) _)) (fun k hk e => by have := hk.2.1; omega)) (hX.upI (t_inA_ok rfl)) (fun g71 e71 hI hX => ?_)
                      refine ev_loc f_X12_reads (nx := 31) rfl rfl rfl rfl ?_
                      refine ev_alu f_X12_reads (nx := 32) rfl rfl rfl rfl ?_
                      refine ev_gvI f_X12_reads (nx := 35) (w := (gi54 69 29)) rfl (hI.wf.s rfl) rfl rfl ((by rw [e71]; exact x_up2_off (Or.inl (by decide)) : g71 69 29 = g70 69 29).trans ((by rw [e70]; exact x_up2_off (Or.inl (by decide)) : g70 69 29 = g68 69 29).trans ((by rw [e68]; exact x_up2_off (Or.inl (by decide)) : g68 69 29 = gi54 69 29).trans rfl))) rfl ?_
                      refine ev_ic f_X12_reads (nx := 36) (v := 1) rfl (by decide) rfl ?_
                      refine ev_addC f_X12_reads (nx := 37) (c := 1) (l := 1) (u := 500) rfl (by decide) l55 u69 rfl rfl (by decide) (by decide) rfl (fun z72 e72 l72 u72 => ?_)
                      refine ev_putIT f_X12_reads (nx := 40) rfl (hI.wf.s rfl) rfl rfl rfl (hI.putB (hI.wf.s rfl) rfl rfl l72 (by decide) u72 (by decide)) (hX.upI rfl) (fun g73 e73 hI hX => ?_)
                      refine ev_retK0 f_X12_reads rfl rfl rfl ?_
                      refine ev_incR f_X12_findsReadings (nx := 119) (c := 1) (l := 1) (u := 13) rfl rfl (by decide) (by decide) l54_6 u59 rfl rfl (by decide) (by decide) rfl (fun z74 e74 l74 u74 => ?_)
                      refine ev_jmp f_X12_findsReadings (nx := 78) rfl rfl rfl ?_
                      refine ev_sub (lo := [(6, .int z74), (5, .int y15_5), (4, .int y8_4), (3, .int (g2 70 0)), (0, .ref 69), (1, .long ar1)]) rfl (t_sc rfl (t_sc rfl (t_sc rfl (t_sc rfl (t_sc rfl (t_sc rfl t_sn)))))) ?_
                      exact ih54 _ (by omega) g73 gl54 gr54 (z74) hI hX  (Int.le_trans (by decide : (0:Int) ≤ 1) l74) u74 ((by rw [e73]; exact x_up2_off (Or.inr (by decide)) : g73 70 0 = g71 70 0).trans ((by rw [e71]; exact x_up2_off (Or.inl (by decide)) : g71 70 0 = g70 70 0).trans ((by rw [e70]; exact x_up2_off (Or.inl (by decide)) : g70 70 0 = g68 70 0).trans ((by rw [e68]; exact x_up2_off (Or.inl (by decide)) : g68 70 0 = gi54 70 0).trans c54_0)))) (by have ff75 : (g73 69 29).toInt = z72.toInt := congrArg Int32.toInt (by rw [e73]; exact x_up2_at _ _ _ _ : g73 69 29 = z72); omega) (fun j => (congrFun ((by rw [e73]; exact x_up2_ne (by decide) : g73 70 = g71 70).trans ((by rw [e71]; exact x_up2_ne (by decide) : g71 70 = g70 70).trans ((by rw [e70]; exact x_up2_ne (by decide) : g70 70 = g68 70).trans ((by rw [e68]; exact x_up2_ne (by decide) : g68 70 = gi54 70))))) j).trans (j54_1 j)) (by
                                                            intro D hm hb
                                                            have z0 : (0 : Int32).toInt = 0 := rfl
                                                            have z1 : (1 : Int32).toInt = 1 := rfl
                                                            have ff76 : (g73 69 29).toInt = z72.toInt := congrArg Int32.toInt (by rw [e73]; exact x_up2_at _ _ _ _ : g73 69 29 = z72)
                                                            obtain ⟨g1, g2, g3, hn⟩ := j54_2 D hm hb
                                                            have hmN : t_ME 0 gi54 D := hm.mv hb (fun j _ _ _ => j54_1 (0 + j))
                                                            have hw60 : w60 = s_hd D y8_4.toInt := (q60.2 D hmN (by omega)).trans ((s_hd_i (D := D) (p := y8_4.toInt) (by omega) (by omega)).trans (by rw [show y8_4.toInt.toNat = y8_4.toNatClampNeg from (by have := t_clamp (i := y8_4) (by omega); omega)])).symm
                                                            have hw61 : w61 = s_hd D y15_5.toInt := (q61.2 D hmN (by omega)).trans ((s_hd_i (D := D) (p := y15_5.toInt) (by omega) (by omega)).trans (by rw [show y15_5.toInt.toNat = y15_5.toNatClampNeg from (by have := t_clamp (i := y15_5) (by omega); omega)])).symm
                                                            have hv := s_bw_e hw60 hw61 e62 e63
                                                            have hne := (t_le0 e64 h65)
                                                            rw [hv] at hne
                                                            exact ⟨s_m4_y g1 (by omega) hne (by omega) (by omega), by omega, by omega, hn⟩) rfl
                    · have r77 : z64.toInt ≠ 0 := fun e => h65 (Int32.toInt_inj.mp (e.trans (by decide : (0:Int) = (0 : Int32).toInt)))
                      refine ev_incR f_X12_findsReadings (nx := 119) (c := 1) (l := 1) (u := 13) rfl rfl (by decide) (by decide) l54_6 u59 rfl rfl (by decide) (by decide) rfl (fun z78 e78 l78 u78 => ?_)
                      refine ev_jmp f_X12_findsReadings (nx := 78) rfl rfl rfl ?_
                      refine ev_sub (lo := [(6, .int z78), (5, .int y15_5), (4, .int y8_4), (3, .int (g2 70 0)), (0, .ref 69), (1, .long ar1)]) rfl (t_sc rfl (t_sc rfl (t_sc rfl (t_sc rfl (t_sc rfl (t_sc rfl t_sn)))))) ?_
                      exact ih54 _ (by omega) gi54 gl54 gr54 (z78) hI hX  (Int.le_trans (by decide : (0:Int) ≤ 1) l78) u78 c54_0 (by omega) j54_1 (by
                                                            intro D hm hb
                                                            have z0 : (0 : Int32).toInt = 0 := rfl
                                                            have z1 : (1 : Int32).toInt = 1 := rfl
                                                            obtain ⟨g1, g2, g3, hn⟩ := j54_2 D hm hb
                                                            have hmN : t_ME 0 gi54 D := hm.mv hb (fun j _ _ _ => j54_1 (0 + j))
                                                            have hw60 : w60 = s_hd D y8_4.toInt := (q60.2 D hmN (by omega)).trans ((s_hd_i (D := D) (p := y8_4.toInt) (by omega) (by omega)).trans (by rw [show y8_4.toInt.toNat = y8_4.toNatClampNeg from (by have := t_clamp (i := y8_4) (by omega); omega)])).symm
                                                            have hw61 : w61 = s_hd D y15_5.toInt := (q61.2 D hmN (by omega)).trans ((s_hd_i (D := D) (p := y15_5.toInt) (by omega) (by omega)).trans (by rw [show y15_5.toInt.toNat = y15_5.toNatClampNeg from (by have := t_clamp (i := y15_5) (by omega); omega)])).symm
                                                            have hv := s_bw_e hw60 hw61 e62 e63
                                                            have hne := (t_le1 e64 h65)
                                                            rw [hv] at hne
                                                            exact ⟨s_m4_n g1 (by omega) hne (by omega) (by omega), by omega, by omega, hn⟩) rfl
                refine ev_sub (lo := [(6, .int 1), (5, .int y15_5), (4, .int y8_4), (3, .int (g2 70 0)), (0, .ref 69), (1, .long ar1)]) rfl (t_sc rfl (t_sc rfl (t_sc rfl (t_sc rfl (t_sc rfl (t_sc rfl t_sn)))))) ?_
                exact L54 _ gi15 gl15 gr15 (1) hI hX  (Int.le_trans (by decide : (0:Int) ≤ 1) (by decide : (1:Int) ≤ (1:Int32).toInt)) (Int.le_trans (by decide : (1:Int32).toInt ≤ (1:Int)) (by decide : (1:Int) ≤ 13)) c15_0 (by have kf79 : (1 : Int32).toInt = 1 := (by decide); omega) j15_1 (by
                                                            intro D hm hb
                                                            have z0 : (0 : Int32).toInt = 0 := rfl
                                                            have z1 : (1 : Int32).toInt = 1 := rfl
                                                            obtain ⟨g1, g2, g3, hn⟩ := j15_2 D hm hb
                                                            have hl2 : s_lb y8_4.toInt y15_5.toInt = (1 : Int32).toInt := s_lb_1 (by omega)
                                                            exact ⟨s_m4_b g1 (by omega) hl2.symm, by omega, by omega, hn⟩) rfl
          refine ev_sub (lo := [(5, .int 0), (4, .int y8_4), (3, .int (g2 70 0)), (0, .ref 69), (1, .long ar1)]) rfl (t_sc rfl (t_sc rfl (t_sc rfl (t_sc rfl (t_sc rfl t_sn))))) ?_
          exact L15 _ gi8 gl8 gr8 (0) hI hX  (by decide : (0:Int) ≤ (0:Int32).toInt) (Int.le_trans (by decide : (0:Int32).toInt ≤ (0:Int)) (by decide : (0:Int) ≤ 6)) c8_0 (by have kf80 : (0 : Int32).toInt = 0 := (by decide); omega) j8_1 (by
                                                            intro D hm hb
                                                            have z0 : (0 : Int32).toInt = 0 := rfl
                                                            have z1 : (1 : Int32).toInt = 1 := rfl
                                                            obtain ⟨g1, g2, hn⟩ := j8_2 D hm hb
                                                            exact ⟨s_m3_b g1 (by omega) (by omega), by omega, by omega, hn⟩) rfl
      refine ev_sub (lo := [(4, .int 0), (3, .int (g2 70 0)), (0, .ref 69), (1, .long ar1)]) rfl (t_sc rfl (t_sc rfl (t_sc rfl (t_sc rfl t_sn)))) ?_
      exact L8 _ gi4 gl4 gr4 (0) hI hX  (by decide : (0:Int) ≤ (0:Int32).toInt) (Int.le_trans (by decide : (0:Int32).toInt ≤ (0:Int)) (by decide : (0:Int) ≤ 6)) c4_0 (by have kf81 : (0 : Int32).toInt = 0 := (by decide); omega) j4_1 (by
                                                            intro D hm hb
                                                            have z0 : (0 : Int32).toInt = 0 := rfl
                                                            have z1 : (1 : Int32).toInt = 1 := rfl
                                                            obtain ⟨g1, g2, hn⟩ := j4_2 D hm hb
                                                            have b0 := hb.1.1
                                                            exact ⟨s_m2_b g1 (by omega) (by omega) (by omega) (by omega), by omega, hn⟩) rfl
    · have r82 : y4_4.toInt < (g2 70 0).toInt := Int32.lt_iff_toInt_lt.mp (t_nle h6)
      have u83 : y4_4.toInt ≤ 5 := t_ltu (t_nle h6) u3 rfl
      have l84 : 1 ≤ (g2 70 0).toInt := t_ltl (t_nle h6) l4_4 rfl
      refine ev_loc f_X12_findsReadings (nx := 22) rfl rfl rfl rfl ?_
      refine ev_loc f_X12_findsReadings (nx := 24) rfl rfl rfl rfl ?_
      refine ev_qL0 f_X12_findsReadings (nx := 27) (r := []) rfl rfl rfl rfl rfl rfl rfl (c_n_heardOf hI (y4_4) l4_4 u83) rfl (fun w85 q85 => ?_)
      have q85 : (0 ≤ w85.toInt ∧ w85.toInt < 8589934592) ∧ ∀ D : s_D, t_ME 0 gi4 D → y4_4.toInt < D 0 → w85 = s_ec (s_so D y4_4.toNatClampNeg) (D 7) := q85
      refine ev_loc f_X12_findsReadings (nx := 28) rfl rfl rfl rfl ?_
      refine ev_anyIE f_X12_findsReadings (nx := 29) rfl rfl rfl rfl (fun z86 e86 => ?_)
      refine ev_if f_X12_findsReadings (t1 := 32) (t2 := 40) rfl rfl rfl (fun h87 => ?_) (fun h87 => ?_)
      · have u88 : z86.toInt ≤ 0 := t_equ h87 (by decide : (0:Int32).toInt ≤ (0:Int))
        have l89 : 0 ≤ z86.toInt := t_eql h87 (by decide : (0:Int) ≤ (0:Int32).toInt)
        refine ev_loc f_X12_findsReadings (nx := 33) rfl rfl rfl rfl ?_
        refine ev_loc f_X12_findsReadings (nx := 35) rfl rfl rfl rfl ?_
        refine ev_ic f_X12_findsReadings (nx := 36) (v := -1) rfl (by decide) rfl ?_
        refine ev_ic f_X12_findsReadings (nx := 37) (v := -1) rfl (by decide) rfl ?_
        refine ev_inV4 f_X12_findsReadings (nx := 40) (lo2 := [(0, .ref 69), (1, .int y4_4), (2, .int (-1)), (3, .int (-1))]) rfl rfl rfl rfl f_X12_reads (hI.wf.s rfl) rfl rfl rfl rfl rfl ?_
        refine ev_loc f_X12_reads (nx := 1) rfl rfl rfl rfl ?_
        refine ev_getR f_X12_reads (nx := 4) rfl (hI.wf.s rfl) rfl rfl (hI.wf.r rfl) rfl rfl ?_
        refine ev_loc f_X12_reads (nx := 5) rfl rfl rfl rfl ?_
        refine ev_gvI f_X12_reads (nx := 8) (w := (gi4 69 29)) rfl (hI.wf.s rfl) rfl rfl rfl rfl ?_
        refine ev_loc f_X12_reads (nx := 9) rfl rfl rfl rfl ?_
        have u91 : (gi4 69 29).toInt ≤ (499:Int) := (by omega)
        refine ev_iastT f_X12_reads (nx := 10) rfl (hI.wf.s rfl) l5 (by decide) u91 (by decide) rfl (hI.astG (hI.wf.s rfl) (fun lo hi e => absurd e (t_nob (by decide +kernel) _)) (fun k hk e => by have := hk.2.1; omega)) (hX.upI (t_inA_ok rfl)) (fun g90 e90 hI hX => ?_)
        refine ev_loc f_X12_reads (nx := 11) rfl rfl rfl rfl ?_
        refine ev_getR f_X12_reads (nx := 14) rfl (hI.wf.s rfl) rfl rfl (hI.wf.r rfl) rfl rfl ?_
        refine ev_loc f_X12_reads (nx := 15) rfl rfl rfl rfl ?_
        refine ev_gvI f_X12_reads (nx := 18) (w := (gi4 69 29)) rfl (hI.wf.s rfl) rfl rfl ((by rw [e90]; exact x_up2_off (Or.inl (by decide)) : g90 69 29 = gi4 69 29).trans rfl) rfl ?_
        refine ev_loc f_X12_reads (nx := 19) rfl rfl rfl rfl ?_
        refine ev_iastT f_X12_reads (nx := 20) rfl (hI.wf.s rfl) l5 (by decide) u91 (by decide) rfl (hI.astG (hI.wf.s rfl) (fun lo hi e => absurd e (t_nob (by decide +kernel) _)) (fun k hk e => by have := hk.2.1; omega)) (hX.upI (t_inA_ok rfl)) (fun g92 e92 hI hX => ?_)
        refine ev_loc f_X12_reads (nx := 21) rfl rfl rfl rfl ?_
        refine ev_getR f_X12_reads (nx := 24) rfl (hI.wf.s rfl) rfl rfl (hI.wf.r rfl) rfl rfl ?_
        refine ev_loc f_X12_reads (nx := 25) rfl rfl rfl rfl ?_
        refine ev_gvI f_X12_reads (nx := 28) (w := (gi4 69 29)) rfl (hI.wf.s rfl) rfl rfl ((by rw [e92]; exact x_up2_off (Or.inl (by decide)) : g92 69 29 = g90 69 29).trans ((by rw [e90]; exact x_up2_off (Or.inl (by decide)) : g90 69 29 = gi4 69 29).trans rfl)) rfl ?_
        refine ev_loc f_X12_reads (nx := 29) rfl rfl rfl rfl ?_
        refine ev_iastT f_X12_reads (nx := 30) rfl (hI.wf.s rfl) l5 (by decide) u91 (by decide) rfl (hI.astG (hI.wf.s rfl) (fun lo hi e => absurd e (t_nob (by decide +kernel) _)) (fun k hk e => by have := hk.2.1; omega)) (hX.upI (t_inA_ok rfl)) (fun g93 e93 hI hX => ?_)
        refine ev_loc f_X12_reads (nx := 31) rfl rfl rfl rfl ?_
        refine ev_alu f_X12_reads (nx := 32) rfl rfl rfl rfl ?_
        refine ev_gvI f_X12_reads (nx := 35) (w := (gi4 69 29)) rfl (hI.wf.s rfl) rfl rfl ((by rw [e93]; exact x_up2_off (Or.inl (by decide)) : g93 69 29 = g92 69 29).trans ((by rw [e92]; exact x_up2_off (Or.inl (by decide)) : g92 69 29 = g90 69 29).trans ((by rw [e90]; exact x_up2_off (Or.inl (by decide)) : g90 69 29 = gi4 69 29).trans rfl))) rfl ?_
        refine ev_ic f_X12_reads (nx := 36) (v := 1) rfl (by decide) rfl ?_
        refine ev_addC f_X12_reads (nx := 37) (c := 1) (l := 1) (u := 500) rfl (by decide) l5 u91 rfl rfl (by decide) (by decide) rfl (fun z94 e94 l94 u94 => ?_)
        refine ev_putIT f_X12_reads (nx := 40) rfl (hI.wf.s rfl) rfl rfl rfl (hI.putB (hI.wf.s rfl) rfl rfl l94 (by decide) u94 (by decide)) (hX.upI rfl) (fun g95 e95 hI hX => ?_)
        refine ev_retK0 f_X12_reads rfl rfl rfl ?_
        refine ev_incR f_X12_findsReadings (nx := 43) (c := 1) (l := 1) (u := 6) rfl rfl (by decide) (by decide) l4_4 u83 rfl rfl (by decide) (by decide) rfl (fun z96 e96 l96 u96 => ?_)
        refine ev_jmp f_X12_findsReadings (nx := 15) rfl rfl rfl ?_
        refine ev_sub (lo := [(4, .int z96), (3, .int (g2 70 0)), (0, .ref 69), (1, .long ar1)]) rfl (t_sc rfl (t_sc rfl (t_sc rfl (t_sc rfl t_sn)))) ?_
        exact ih4 _ (by omega) g95 gl4 gr4 (z96) hI hX  (Int.le_trans (by decide : (0:Int) ≤ 1) l96) u96 ((by rw [e95]; exact x_up2_off (Or.inr (by decide)) : g95 70 0 = g93 70 0).trans ((by rw [e93]; exact x_up2_off (Or.inl (by decide)) : g93 70 0 = g92 70 0).trans ((by rw [e92]; exact x_up2_off (Or.inl (by decide)) : g92 70 0 = g90 70 0).trans ((by rw [e90]; exact x_up2_off (Or.inl (by decide)) : g90 70 0 = gi4 70 0).trans c4_0)))) (by have ff97 : (g95 69 29).toInt = z94.toInt := congrArg Int32.toInt (by rw [e95]; exact x_up2_at _ _ _ _ : g95 69 29 = z94); omega) (fun j => (congrFun ((by rw [e95]; exact x_up2_ne (by decide) : g95 70 = g93 70).trans ((by rw [e93]; exact x_up2_ne (by decide) : g93 70 = g92 70).trans ((by rw [e92]; exact x_up2_ne (by decide) : g92 70 = g90 70).trans ((by rw [e90]; exact x_up2_ne (by decide) : g90 70 = gi4 70))))) j).trans (j4_1 j)) (by
                                                            intro D hm hb
                                                            have z0 : (0 : Int32).toInt = 0 := rfl
                                                            have z1 : (1 : Int32).toInt = 1 := rfl
                                                            have ff98 : (g95 69 29).toInt = z94.toInt := congrArg Int32.toInt (by rw [e95]; exact x_up2_at _ _ _ _ : g95 69 29 = z94)
                                                            obtain ⟨g1, g2, hn⟩ := j4_2 D hm hb
                                                            have hmN : t_ME 0 gi4 D := hm.mv hb (fun j _ _ _ => j4_1 (0 + j))
                                                            have hw85 : w85 = s_hd D y4_4.toInt := (q85.2 D hmN (by omega)).trans ((s_hd_i (D := D) (p := y4_4.toInt) (by omega) (by omega)).trans (by rw [show y4_4.toInt.toNat = y4_4.toNatClampNeg from (by have := t_clamp (i := y4_4) (by omega); omega)])).symm
                                                            have hne := (t_le0 e86 h87)
                                                            rw [hw85] at hne
                                                            exact ⟨s_m1_y g1 (by omega) hne (by omega) (by omega), by omega, hn⟩) rfl
      · have r99 : z86.toInt ≠ 0 := fun e => h87 (Int32.toInt_inj.mp (e.trans (by decide : (0:Int) = (0 : Int32).toInt)))
        refine ev_incR f_X12_findsReadings (nx := 43) (c := 1) (l := 1) (u := 6) rfl rfl (by decide) (by decide) l4_4 u83 rfl rfl (by decide) (by decide) rfl (fun z100 e100 l100 u100 => ?_)
        refine ev_jmp f_X12_findsReadings (nx := 15) rfl rfl rfl ?_
        refine ev_sub (lo := [(4, .int z100), (3, .int (g2 70 0)), (0, .ref 69), (1, .long ar1)]) rfl (t_sc rfl (t_sc rfl (t_sc rfl (t_sc rfl t_sn)))) ?_
        exact ih4 _ (by omega) gi4 gl4 gr4 (z100) hI hX  (Int.le_trans (by decide : (0:Int) ≤ 1) l100) u100 c4_0 (by omega) j4_1 (by
                                                            intro D hm hb
                                                            have z0 : (0 : Int32).toInt = 0 := rfl
                                                            have z1 : (1 : Int32).toInt = 1 := rfl
                                                            obtain ⟨g1, g2, hn⟩ := j4_2 D hm hb
                                                            have hmN : t_ME 0 gi4 D := hm.mv hb (fun j _ _ _ => j4_1 (0 + j))
                                                            have hw85 : w85 = s_hd D y4_4.toInt := (q85.2 D hmN (by omega)).trans ((s_hd_i (D := D) (p := y4_4.toInt) (by omega) (by omega)).trans (by rw [show y4_4.toInt.toNat = y4_4.toNatClampNeg from (by have := t_clamp (i := y4_4) (by omega); omega)])).symm
                                                            have hne := (t_le1 e86 h87)
                                                            rw [hw85] at hne
                                                            exact ⟨s_m1_n g1 (by omega) hne (by omega) (by omega), by omega, hn⟩) rfl
  refine ev_sub (lo := [(4, .int 0), (3, .int (g2 70 0)), (0, .ref 69), (1, .long ar1)]) rfl (t_sc rfl (t_sc rfl (t_sc rfl (t_sc rfl t_sn)))) ?_
  exact L4 _ g2 gl gr (0) hI hX  (by decide : (0:Int) ≤ (0:Int32).toInt) (Int.le_trans (by decide : (0:Int32).toInt ≤ (0:Int)) (by decide : (0:Int) ≤ 6)) rfl (by have kf101 : (0 : Int32).toInt = 0 := (by decide); have ff102 : (g2 69 29).toInt = 0 := (congrArg Int32.toInt (by rw [e2]; exact x_up2_at _ _ _ _ : g2 69 29 = 0)).trans (by decide); omega) (fun j => (congrFun ((by rw [e2]; exact x_up2_ne (by decide) : g2 70 = gi 70)) j).trans ((fun _ => rfl) j)) (by
                                                            intro D hm hb
                                                            have z0 : (0 : Int32).toInt = 0 := rfl
                                                            have z1 : (1 : Int32).toInt = 1 := rfl
                                                            have ff103 : (g2 69 29).toInt = 0 := (congrArg Int32.toInt (by rw [e2]; exact x_up2_at _ _ _ _ : g2 69 29 = 0)).trans (by decide)
                                                            have hn : (g2 70 0).toInt = D 0 := by rw [e2, x_up2_off (Or.inl (by decide))]; exact hm.1.1.1
                                                            have b0 := hb.1.1
                                                            exact ⟨(by show _ = (0 : Int); omega), by omega, hn⟩) rfl
/-! ===== the first of the BEATS by which a couple has one READING ===== -/
noncomputable def s_cl (D : s_D) (a b : Int) : Nat → Int → Int
  | 0, _ => -1
  | m + 1, e => s_if (s_ct D (s_bw D a b e) (-1) = 1) e (s_cl D a b m (e + 1))
section CLB
variable {D : s_D} {a b x e e' : Int}
theorem s_cl_1 (h1 : e ≤ 12) : s_cl D a b (13 - e).toNat e = s_if (s_ct D (s_bw D a b e) (-1) = 1) e (s_cl D a b (13 - (e + 1)).toNat (e + 1)) := by
  rw [show (13 - e).toNat = (13 - (e + 1)).toNat + 1 by omega]; rfl
theorem s_cl_s (h : x = s_cl D a b (13 - e).toNat e) (h1 : e ≤ 12) (hn : ¬ s_ct D (s_bw D a b e) (-1) = 1) (he : e' = e + 1) : x = s_cl D a b (13 - e').toNat e' := by
  rw [h, s_cl_1 h1, s_ifF hn, he]
theorem s_cl_f (h : x = s_cl D a b (13 - e).toNat e) (h1 : e ≤ 12) (hn : s_ct D (s_bw D a b e) (-1) = 1) : x = e := by
  rw [h, s_cl_1 h1, s_ifT hn]
theorem s_cl_e (h : x = s_cl D a b (13 - e).toNat e) (h1 : 13 ≤ e) : x = -1 := by
  rw [h, show (13 - e).toNat = 0 by omega]; rfl
end CLB
/-! ===== printed by riv.py: clearBeats, doubt ===== -/
noncomputable def wl_d_clearBeats : List (Nat × Nat) := [(0, 0)]
noncomputable def Q_d_clearBeats (gi : Nat → Nat → Int32) (gl : Nat → Nat → Int64) (gr : Nat → Nat → Value) (ar1 : Int32) (ar2 : Int32) : Int32 → (Nat → Nat → Int32) → (Nat → Nat → Int64) → (Nat → Nat → Value) → Prop := fun (v : Int32) (gi2 : Nat → Nat → Int32) (gl2 : Nat → Nat → Int64) (gr2 : Nat → Nat → Value) => ∀ (u : Nat) (D : s_D), gr 0 6 = .ref u → t_VL gr u → t_CV gi gl u D → t_Cb D → ((0 ≤ ar1.toInt ∧ ar1.toInt < D 0 ∧ 0 ≤ ar2.toInt ∧ ar2.toInt < D 0) → v.toInt = s_cl D ar1.toInt ar2.toInt 13 0) ∧ (¬ (0 ≤ ar1.toInt ∧ ar1.toInt < D 0 ∧ 0 ≤ ar2.toInt ∧ ar2.toInt < D 0) → v.toInt = -1)
theorem c_d_clearBeats {X : x_Ext} {d : Nat} {sh : List (Nat ⊕ (Nat × Nat))} {gi : Nat → Nat → Int32} {gl : Nat → Nat → Int64} {gr : Nat → Nat → Value} (hI : t_I sh gi gr) (ar1 : Int32) (ar2 : Int32) : x_Me X (d + 6) n_X11_clearBeats [.ref 0, .int ar1, .int ar2] (sh, gi, gl, gr) (t_PI wl_d_clearBeats sh gi gl gr (-1) 12 (Q_d_clearBeats gi gl gr ar1 ar2)) := by
  have hX : t_X wl_d_clearBeats sh gi gl gr gi gl gr := t_X.rf
  refine me_i f_X11_clearBeats (hI.wf.s rfl) rfl rfl rfl ?_
  refine ev_loc f_X11_clearBeats (nx := 1) rfl rfl rfl rfl ?_
  refine ev_loc f_X11_clearBeats (nx := 2) rfl rfl rfl rfl ?_
  refine ev_inV2 f_X11_clearBeats (nx := 5) (lo2 := [(0, .ref 0), (1, .int ar1)]) rfl rfl rfl rfl f_X11_isPort (hI.wf.s rfl) rfl rfl rfl rfl rfl ?_
  refine ev_loc f_X11_isPort (nx := 1) rfl rfl rfl rfl ?_
  refine ev_if f_X11_isPort (t1 := 19) (t2 := 4) rfl rfl rfl (fun h1 => ?_) (fun h1 => ?_)
  · have u2 : ar1.toInt ≤ (-1) := t_ltu h1 (by decide : (0:Int32).toInt ≤ (0:Int)) rfl
    refine ev_ic f_X11_isPort (nx := 20) (v := 0) rfl (by decide) rfl ?_
    refine ev_retK1 f_X11_isPort rfl rfl rfl ?_
    refine ev_t f_X11_clearBeats (t1 := 16) (t2 := 8) rfl rfl rfl (by decide) ?_
    refine ev_loc f_X11_clearBeats (nx := 17) rfl rfl rfl rfl ?_
    refine ev_ic f_X11_clearBeats (nx := 18) (v := 1) rfl (by decide) rfl ?_
    refine ev_inV2 f_X11_clearBeats (nx := 21) (lo2 := [(0, .ref 0), (1, .int 1)]) rfl rfl rfl rfl f_X11_refuse (hI.wf.s rfl) rfl rfl rfl rfl rfl ?_
    refine ev_loc f_X11_refuse (nx := 1) rfl rfl rfl rfl ?_
    refine ev_loc f_X11_refuse (nx := 2) rfl rfl rfl rfl ?_
    refine ev_putIT f_X11_refuse (nx := 5) rfl (hI.wf.s rfl) rfl rfl rfl (hI.put0 (hI.wf.s rfl) rfl rfl) (hX.upI rfl) (fun g3 e3 hI hX => ?_)
    refine ev_ic f_X11_refuse (nx := 6) (v := -1) rfl (by decide) rfl ?_
    refine ev_retK1 f_X11_refuse rfl rfl rfl ?_
    exact ev_ret f_X11_clearBeats rfl rfl rfl ⟨_, _, _, rfl, hI, hX, ⟨_, rfl, (by decide : ((-1):Int) ≤ ((-1):Int32).toInt), (Int.le_trans (by decide : ((-1):Int32).toInt ≤ ((-1):Int)) (by decide : ((-1):Int) ≤ 12)), (show ∀ (u : Nat) (D : s_D), gr 0 6 = .ref u → t_VL gr u → t_CV gi gl u D → t_Cb D → ((0 ≤ ar1.toInt ∧ ar1.toInt < D 0 ∧ 0 ≤ ar2.toInt ∧ ar2.toInt < D 0) → ((-1) : Int) = s_cl D ar1.toInt ar2.toInt 13 0) ∧ (¬ (0 ≤ ar1.toInt ∧ ar1.toInt < D 0 ∧ 0 ≤ ar2.toInt ∧ ar2.toInt < D 0) → ((-1) : Int) = -1) from (by
                                                            intro u D hu hl hc hb
                                                            have hm := hc.1.1
                                                            exact ⟨fun h => absurd h (by omega), fun _ => rfl⟩))⟩⟩
  · have l4 : 0 ≤ ar1.toInt := t_lel (t_nlt h1) (by decide : (0:Int) ≤ (0:Int32).toInt)
    refine ev_loc f_X11_isPort (nx := 5) rfl rfl rfl rfl ?_
    refine ev_loc f_X11_isPort (nx := 6) rfl rfl rfl rfl ?_
    obtain ⟨a5, e5, p5⟩ := hI.2.2.2.1.1
    refine ev_getR f_X11_isPort (nx := 9) rfl (hI.wf.s rfl) rfl rfl e5 rfl rfl ?_
    refine ev_getI f_X11_isPort (nx := 12) rfl p5.1 rfl rfl rfl ?_
    obtain ⟨l6, u6⟩ := hI.b p5.1 (t_bdK rfl : t_bd 4 0 = some (0, 6))
    refine ev_if f_X11_isPort (t1 := 19) (t2 := 15) rfl rfl rfl (fun h7 => ?_) (fun h7 => ?_)
    · have r8 : (gi a5 0).toInt ≤ ar1.toInt := Int32.le_iff_toInt_le.mp h7
      refine ev_ic f_X11_isPort (nx := 20) (v := 0) rfl (by decide) rfl ?_
      refine ev_retK1 f_X11_isPort rfl rfl rfl ?_
      refine ev_t f_X11_clearBeats (t1 := 16) (t2 := 8) rfl rfl rfl (by decide) ?_
      refine ev_loc f_X11_clearBeats (nx := 17) rfl rfl rfl rfl ?_
      refine ev_ic f_X11_clearBeats (nx := 18) (v := 1) rfl (by decide) rfl ?_
      refine ev_inV2 f_X11_clearBeats (nx := 21) (lo2 := [(0, .ref 0), (1, .int 1)]) rfl rfl rfl rfl f_X11_refuse (hI.wf.s rfl) rfl rfl rfl rfl rfl ?_
      refine ev_loc f_X11_refuse (nx := 1) rfl rfl rfl rfl ?_
      refine ev_loc f_X11_refuse (nx := 2) rfl rfl rfl rfl ?_
      refine ev_putIT f_X11_refuse (nx := 5) rfl (hI.wf.s rfl) rfl rfl rfl (hI.put0 (hI.wf.s rfl) rfl rfl) (hX.upI rfl) (fun g9 e9 hI hX => ?_)
      refine ev_ic f_X11_refuse (nx := 6) (v := -1) rfl (by decide) rfl ?_
      refine ev_retK1 f_X11_refuse rfl rfl rfl ?_
      exact ev_ret f_X11_clearBeats rfl rfl rfl ⟨_, _, _, rfl, hI, hX, ⟨_, rfl, (by decide : ((-1):Int) ≤ ((-1):Int32).toInt), (Int.le_trans (by decide : ((-1):Int32).toInt ≤ ((-1):Int)) (by decide : ((-1):Int) ≤ 12)), (show ∀ (u : Nat) (D : s_D), gr 0 6 = .ref u → t_VL gr u → t_CV gi gl u D → t_Cb D → ((0 ≤ ar1.toInt ∧ ar1.toInt < D 0 ∧ 0 ≤ ar2.toInt ∧ ar2.toInt < D 0) → ((-1) : Int) = s_cl D ar1.toInt ar2.toInt 13 0) ∧ (¬ (0 ≤ ar1.toInt ∧ ar1.toInt < D 0 ∧ 0 ≤ ar2.toInt ∧ ar2.toInt < D 0) → ((-1) : Int) = -1) from (by
                                                            intro u D hu hl hc hb
                                                            have ha : a5 = u := Value.ref.inj (e5.symm.trans hu)
                                                            subst ha
                                                            have hm := hc.1.1
                                                            exact ⟨fun h => absurd h (by omega), fun _ => rfl⟩))⟩⟩
    · have r10 : ar1.toInt < (gi a5 0).toInt := Int32.lt_iff_toInt_lt.mp (t_nle h7)
      have u11 : ar1.toInt ≤ 5 := t_ltu (t_nle h7) u6 rfl
      have l12 : 1 ≤ (gi a5 0).toInt := t_ltl (t_nle h7) l4 rfl
      refine ev_ic f_X11_isPort (nx := 16) (v := 1) rfl (by decide) rfl ?_
      refine ev_jmp f_X11_isPort (nx := 20) rfl rfl rfl ?_
      refine ev_retK1 f_X11_isPort rfl rfl rfl ?_
      refine ev_f f_X11_clearBeats (t1 := 16) (t2 := 8) rfl rfl rfl (by decide) ?_
      refine ev_loc f_X11_clearBeats (nx := 9) rfl rfl rfl rfl ?_
      refine ev_loc f_X11_clearBeats (nx := 10) rfl rfl rfl rfl ?_
      refine ev_inV2 f_X11_clearBeats (nx := 13) (lo2 := [(0, .ref 0), (1, .int ar2)]) rfl rfl rfl rfl f_X11_isPort (hI.wf.s rfl) rfl rfl rfl rfl rfl ?_
      refine ev_loc f_X11_isPort (nx := 1) rfl rfl rfl rfl ?_
      refine ev_if f_X11_isPort (t1 := 19) (t2 := 4) rfl rfl rfl (fun h13 => ?_) (fun h13 => ?_)
      · have u14 : ar2.toInt ≤ (-1) := t_ltu h13 (by decide : (0:Int32).toInt ≤ (0:Int)) rfl
        refine ev_ic f_X11_isPort (nx := 20) (v := 0) rfl (by decide) rfl ?_
        refine ev_retK1 f_X11_isPort rfl rfl rfl ?_
        refine ev_t f_X11_clearBeats (t1 := 16) (t2 := 22) rfl rfl rfl (by decide) ?_
        refine ev_loc f_X11_clearBeats (nx := 17) rfl rfl rfl rfl ?_
        refine ev_ic f_X11_clearBeats (nx := 18) (v := 1) rfl (by decide) rfl ?_
        refine ev_inV2 f_X11_clearBeats (nx := 21) (lo2 := [(0, .ref 0), (1, .int 1)]) rfl rfl rfl rfl f_X11_refuse (hI.wf.s rfl) rfl rfl rfl rfl rfl ?_
        refine ev_loc f_X11_refuse (nx := 1) rfl rfl rfl rfl ?_
        refine ev_loc f_X11_refuse (nx := 2) rfl rfl rfl rfl ?_
        refine ev_putIT f_X11_refuse (nx := 5) rfl (hI.wf.s rfl) rfl rfl rfl (hI.put0 (hI.wf.s rfl) rfl rfl) (hX.upI rfl) (fun g15 e15 hI hX => ?_)
        refine ev_ic f_X11_refuse (nx := 6) (v := -1) rfl (by decide) rfl ?_
        refine ev_retK1 f_X11_refuse rfl rfl rfl ?_
        exact ev_ret f_X11_clearBeats rfl rfl rfl ⟨_, _, _, rfl, hI, hX, ⟨_, rfl, (by decide : ((-1):Int) ≤ ((-1):Int32).toInt), (Int.le_trans (by decide : ((-1):Int32).toInt ≤ ((-1):Int)) (by decide : ((-1):Int) ≤ 12)), (show ∀ (u : Nat) (D : s_D), gr 0 6 = .ref u → t_VL gr u → t_CV gi gl u D → t_Cb D → ((0 ≤ ar1.toInt ∧ ar1.toInt < D 0 ∧ 0 ≤ ar2.toInt ∧ ar2.toInt < D 0) → ((-1) : Int) = s_cl D ar1.toInt ar2.toInt 13 0) ∧ (¬ (0 ≤ ar1.toInt ∧ ar1.toInt < D 0 ∧ 0 ≤ ar2.toInt ∧ ar2.toInt < D 0) → ((-1) : Int) = -1) from (by
                                                            intro u D hu hl hc hb
                                                            have ha : a5 = u := Value.ref.inj (e5.symm.trans hu)
                                                            subst ha
                                                            have hm := hc.1.1
                                                            exact ⟨fun h => absurd h (by omega), fun _ => rfl⟩))⟩⟩
      · have l16 : 0 ≤ ar2.toInt := t_lel (t_nlt h13) (by decide : (0:Int) ≤ (0:Int32).toInt)
        refine ev_loc f_X11_isPort (nx := 5) rfl rfl rfl rfl ?_
        refine ev_loc f_X11_isPort (nx := 6) rfl rfl rfl rfl ?_
        refine ev_getR f_X11_isPort (nx := 9) (v := .ref a5) rfl (hI.wf.s rfl) rfl rfl e5 rfl rfl ?_
        refine ev_gvI f_X11_isPort (nx := 12) (w := (gi a5 0)) rfl p5.1 rfl rfl rfl rfl ?_
        refine ev_if f_X11_isPort (t1 := 19) (t2 := 15) rfl rfl rfl (fun h17 => ?_) (fun h17 => ?_)
        · have r18 : (gi a5 0).toInt ≤ ar2.toInt := Int32.le_iff_toInt_le.mp h17
          have l19 : 1 ≤ ar2.toInt := t_lel h17 l12
          refine ev_ic f_X11_isPort (nx := 20) (v := 0) rfl (by decide) rfl ?_
          refine ev_retK1 f_X11_isPort rfl rfl rfl ?_
          refine ev_t f_X11_clearBeats (t1 := 16) (t2 := 22) rfl rfl rfl (by decide) ?_
          refine ev_loc f_X11_clearBeats (nx := 17) rfl rfl rfl rfl ?_
          refine ev_ic f_X11_clearBeats (nx := 18) (v := 1) rfl (by decide) rfl ?_
          refine ev_inV2 f_X11_clearBeats (nx := 21) (lo2 := [(0, .ref 0), (1, .int 1)]) rfl rfl rfl rfl f_X11_refuse (hI.wf.s rfl) rfl rfl rfl rfl rfl ?_
          refine ev_loc f_X11_refuse (nx := 1) rfl rfl rfl rfl ?_
          refine ev_loc f_X11_refuse (nx := 2) rfl rfl rfl rfl ?_
          refine ev_putIT f_X11_refuse (nx := 5) rfl (hI.wf.s rfl) rfl rfl rfl (hI.put0 (hI.wf.s rfl) rfl rfl) (hX.upI rfl) (fun g20 e20 hI hX => ?_)
          refine ev_ic f_X11_refuse (nx := 6) (v := -1) rfl (by decide) rfl ?_
          refine ev_retK1 f_X11_refuse rfl rfl rfl ?_
          exact ev_ret f_X11_clearBeats rfl rfl rfl ⟨_, _, _, rfl, hI, hX, ⟨_, rfl, (by decide : ((-1):Int) ≤ ((-1):Int32).toInt), (Int.le_trans (by decide : ((-1):Int32).toInt ≤ ((-1):Int)) (by decide : ((-1):Int) ≤ 12)), (show ∀ (u : Nat) (D : s_D), gr 0 6 = .ref u → t_VL gr u → t_CV gi gl u D → t_Cb D → ((0 ≤ ar1.toInt ∧ ar1.toInt < D 0 ∧ 0 ≤ ar2.toInt ∧ ar2.toInt < D 0) → ((-1) : Int) = s_cl D ar1.toInt ar2.toInt 13 0) ∧ (¬ (0 ≤ ar1.toInt ∧ ar1.toInt < D 0 ∧ 0 ≤ ar2.toInt ∧ ar2.toInt < D 0) → ((-1) : Int) = -1) from (by
                                                            intro u D hu hl hc hb
                                                            have ha : a5 = u := Value.ref.inj (e5.symm.trans hu)
                                                            subst ha
                                                            have hm := hc.1.1
                                                            exact ⟨fun h => absurd h (by omega), fun _ => rfl⟩))⟩⟩
        · have r21 : ar2.toInt < (gi a5 0).toInt := Int32.lt_iff_toInt_lt.mp (t_nle h17)
          have u22 : ar2.toInt ≤ 5 := t_ltu (t_nle h17) u6 rfl
          refine ev_ic f_X11_isPort (nx := 16) (v := 1) rfl (by decide) rfl ?_
          refine ev_jmp f_X11_isPort (nx := 20) rfl rfl rfl ?_
          refine ev_retK1 f_X11_isPort rfl rfl rfl ?_
          refine ev_f f_X11_clearBeats (t1 := 16) (t2 := 22) rfl rfl rfl (by decide) ?_
          refine ev_ic f_X11_clearBeats (nx := 23) (v := 0) rfl (by decide) rfl ?_
          refine ev_loc f_X11_clearBeats (nx := 24) (lo' := [(3, .int 0), (0, .ref 0), (1, .int ar1), (2, .int ar2)]) rfl rfl rfl rfl ?_
          have L23 : ∀ (m23 : Nat) (y23_3 : Int32), 0 ≤ y23_3.toInt → y23_3.toInt ≤ 13 → (∀ (u : Nat) (D : s_D), gr 0 6 = .ref u → t_VL gr u → t_CV gi gl u D → t_Cb D → s_cl D ar1.toInt ar2.toInt 13 0 = s_cl D ar1.toInt ar2.toInt (13 - y23_3.toInt).toNat y23_3.toInt) → (13 - y23_3.toInt).toNat = m23 → x_Ev X (d + 6) n_X11_clearBeats 24 [(3, .int y23_3), (0, .ref 0), (1, .int ar1), (2, .int ar2)] [] (sh, gi, gl, gr) (t_PI wl_d_clearBeats sh gi gl gr (-1) 12 (Q_d_clearBeats gi gl gr ar1 ar2)) := by
            intro m23
            induction m23 using Nat.strongRecOn with
            | _ m23 ih23 =>
            intro y23_3 l23_3 u23_3 j23_0 hm23
            refine ev_loc f_X11_clearBeats (nx := 25) rfl rfl rfl rfl ?_
            refine ev_bp f_X11_clearBeats (nx := 27) (v := 12) rfl (by decide) rfl ?_
            refine ev_if f_X11_clearBeats (t1 := 64) (t2 := 30) rfl rfl rfl (fun h24 => ?_) (fun h24 => ?_)
            · have l25 : 13 ≤ y23_3.toInt := t_ltl h24 (by decide : (12:Int) ≤ (12:Int32).toInt) rfl
              refine ev_loc f_X11_clearBeats (nx := 65) rfl rfl rfl rfl ?_
              refine ev_bp f_X11_clearBeats (nx := 67) (v := 6) rfl (by decide) rfl ?_
              refine ev_inV2 f_X11_clearBeats (nx := 70) (lo2 := [(0, .ref 0), (1, .int 6)]) rfl rfl rfl rfl f_X11_refuse (hI.wf.s rfl) rfl rfl rfl rfl rfl ?_
              refine ev_loc f_X11_refuse (nx := 1) rfl rfl rfl rfl ?_
              refine ev_loc f_X11_refuse (nx := 2) rfl rfl rfl rfl ?_
              refine ev_putIT f_X11_refuse (nx := 5) rfl (hI.wf.s rfl) rfl rfl rfl (hI.put0 (hI.wf.s rfl) rfl rfl) (hX.upI rfl) (fun g26 e26 hI hX => ?_)
              refine ev_ic f_X11_refuse (nx := 6) (v := -1) rfl (by decide) rfl ?_
              refine ev_retK1 f_X11_refuse rfl rfl rfl ?_
              exact ev_ret f_X11_clearBeats rfl rfl rfl ⟨_, _, _, rfl, hI, hX, ⟨_, rfl, (by decide : ((-1):Int) ≤ ((-1):Int32).toInt), (Int.le_trans (by decide : ((-1):Int32).toInt ≤ ((-1):Int)) (by decide : ((-1):Int) ≤ 12)), (show ∀ (u : Nat) (D : s_D), gr 0 6 = .ref u → t_VL gr u → t_CV gi gl u D → t_Cb D → ((0 ≤ ar1.toInt ∧ ar1.toInt < D 0 ∧ 0 ≤ ar2.toInt ∧ ar2.toInt < D 0) → ((-1) : Int) = s_cl D ar1.toInt ar2.toInt 13 0) ∧ (¬ (0 ≤ ar1.toInt ∧ ar1.toInt < D 0 ∧ 0 ≤ ar2.toInt ∧ ar2.toInt < D 0) → ((-1) : Int) = -1) from (by
                                                            intro u D hu hl hc hb
                                                            have g1 := j23_0 u D hu hl hc hb
                                                            have ha : a5 = u := Value.ref.inj (e5.symm.trans hu)
                                                            subst ha
                                                            have hm := hc.1.1
                                                            refine ⟨fun _ => ?_, fun h => absurd (show _ from ⟨by omega, by omega, by omega, by omega⟩) h⟩
                                                            exact (s_cl_e g1 (by omega)).symm))⟩⟩
            · have u27 : y23_3.toInt ≤ 12 := t_leu (t_nlt h24) (by decide : (12:Int32).toInt ≤ (12:Int))
              refine ev_loc f_X11_clearBeats (nx := 31) rfl rfl rfl rfl ?_
              refine ev_getR f_X11_clearBeats (nx := 34) (v := .ref a5) rfl (hI.wf.s rfl) rfl rfl e5 rfl rfl ?_
              refine ev_loc f_X11_clearBeats (nx := 35) rfl rfl rfl rfl ?_
              refine ev_getR f_X11_clearBeats (nx := 38) (v := .ref a5) rfl (hI.wf.s rfl) rfl rfl e5 rfl rfl ?_
              refine ev_loc f_X11_clearBeats (nx := 39) rfl rfl rfl rfl ?_
              refine ev_loc f_X11_clearBeats (nx := 40) rfl rfl rfl rfl ?_
              refine ev_loc f_X11_clearBeats (nx := 41) rfl rfl rfl rfl ?_
              refine ev_inV4 f_X11_clearBeats (nx := 44) (lo2 := [(0, .ref a5), (1, .int ar1), (2, .int ar2), (3, .int y23_3)]) rfl rfl rfl rfl f_X5_bothHeard p5.1 rfl rfl rfl rfl rfl ?_
              refine ev_loc f_X5_bothHeard (nx := 1) rfl rfl rfl rfl ?_
              refine ev_loc f_X5_bothHeard (nx := 2) rfl rfl rfl rfl ?_
              refine ev_qL0 f_X5_bothHeard (nx := 5) (r := []) rfl rfl rfl rfl rfl rfl rfl (c_d_heardOf hI (a5) p5 (ar1)) rfl (fun w28 q28 => ?_)
              have q28 : ∀ D : s_D, t_VL gr a5 → t_CV gi gl a5 D → w28 = s_hd D ar1.toInt := q28
              refine ev_loc f_X5_bothHeard (nx := 6) rfl rfl rfl rfl ?_
              refine ev_loc f_X5_bothHeard (nx := 7) rfl rfl rfl rfl ?_
              refine ev_qL0 f_X5_bothHeard (nx := 10) (r := [.long w28]) rfl rfl rfl rfl rfl rfl rfl (c_d_heardOf hI (a5) p5 (ar2)) rfl (fun w29 q29 => ?_)
              have q29 : ∀ D : s_D, t_VL gr a5 → t_CV gi gl a5 D → w29 = s_hd D ar2.toInt := q29
              refine ev_loc f_X5_bothHeard (nx := 11) rfl rfl rfl rfl ?_
              refine ev_anyLE f_X5_bothHeard (nx := 12) rfl rfl rfl rfl (fun z30 e30 => ?_)
              refine ev_anyLE f_X5_bothHeard (nx := 13) rfl rfl rfl rfl (fun z31 e31 => ?_)
              refine ev_retK1 f_X5_bothHeard rfl rfl rfl ?_
              refine ev_ic f_X11_clearBeats (nx := 45) (v := -1) rfl (by decide) rfl ?_
              refine ev_qI0 f_X11_clearBeats (nx := 48) (r := []) rfl rfl rfl rfl rfl rfl rfl (c_d_countReadings hI (a5) p5 (z31) ((-1))) rfl (fun w32 l32 u32 q32 => ?_)
              have q32 : ∀ D : s_D, t_VL gr a5 → t_CV gi gl a5 D → t_Cb D → w32.toInt = s_ct D z31 (-1) := q32
              refine ev_ic f_X11_clearBeats (nx := 49) (v := 1) rfl (by decide) rfl ?_
              refine ev_if f_X11_clearBeats (t1 := 52) (t2 := 58) rfl rfl rfl (fun h33 => ?_) (fun h33 => ?_)
              · have u34 : w32.toInt ≤ 1 := t_equ h33 (by decide : (1:Int32).toInt ≤ (1:Int))
                have l35 : 1 ≤ w32.toInt := t_eql h33 (by decide : (1:Int) ≤ (1:Int32).toInt)
                refine ev_loc f_X11_clearBeats (nx := 53) rfl rfl rfl rfl ?_
                refine ev_loc f_X11_clearBeats (nx := 54) rfl rfl rfl rfl ?_
                refine ev_inV2 f_X11_clearBeats (nx := 57) (lo2 := [(0, .ref 0), (1, .int y23_3)]) rfl rfl rfl rfl f_X11_answer (hI.wf.s rfl) rfl rfl rfl rfl rfl ?_
                refine ev_loc f_X11_answer (nx := 1) rfl rfl rfl rfl ?_
                refine ev_ic f_X11_answer (nx := 2) (v := 0) rfl (by decide) rfl ?_
                refine ev_putIT f_X11_answer (nx := 5) rfl (hI.wf.s rfl) rfl rfl rfl (hI.put0 (hI.wf.s rfl) rfl rfl) (hX.upI rfl) (fun g36 e36 hI hX => ?_)
                refine ev_loc f_X11_answer (nx := 6) rfl rfl rfl rfl ?_
                refine ev_retK1 f_X11_answer rfl rfl rfl ?_
                exact ev_ret f_X11_clearBeats rfl rfl rfl ⟨_, _, _, rfl, hI, hX, ⟨_, rfl, (Int.le_trans (by decide : ((-1):Int) ≤ 0) l23_3), u27, (show ∀ (u : Nat) (D : s_D), gr 0 6 = .ref u → t_VL gr u → t_CV gi gl u D → t_Cb D → ((0 ≤ ar1.toInt ∧ ar1.toInt < D 0 ∧ 0 ≤ ar2.toInt ∧ ar2.toInt < D 0) → y23_3.toInt = s_cl D ar1.toInt ar2.toInt 13 0) ∧ (¬ (0 ≤ ar1.toInt ∧ ar1.toInt < D 0 ∧ 0 ≤ ar2.toInt ∧ ar2.toInt < D 0) → y23_3.toInt = -1) from (by
                                                            intro u D hu hl hc hb
                                                            have g1 := j23_0 u D hu hl hc hb
                                                            have ha : a5 = u := Value.ref.inj (e5.symm.trans hu)
                                                            subst ha
                                                            have hm := hc.1.1
                                                            refine ⟨fun _ => ?_, fun h => absurd (show _ from ⟨by omega, by omega, by omega, by omega⟩) h⟩
                                                            have hv := s_bw_e (q28 D hl hc) (q29 D hl hc) e30 e31
                                                            have hq := q32 D hl hc hb
                                                            rw [hv] at hq
                                                            exact (s_cl_f g1 (by omega) (hq.symm.trans (by have z1 : (1 : Int32).toInt = 1 := rfl; omega))).symm))⟩⟩
              · have r37 : w32.toInt ≠ 1 := fun e => h33 (Int32.toInt_inj.mp (e.trans (by decide : (1:Int) = (1 : Int32).toInt)))
                refine ev_incR f_X11_clearBeats (nx := 61) (c := 1) (l := 1) (u := 13) rfl rfl (by decide) (by decide) l23_3 u27 rfl rfl (by decide) (by decide) rfl (fun z38 e38 l38 u38 => ?_)
                refine ev_jmp f_X11_clearBeats (nx := 24) rfl rfl rfl ?_
                refine ev_sub (lo := [(3, .int z38), (0, .ref 0), (1, .int ar1), (2, .int ar2)]) rfl (t_sc rfl (t_sc rfl (t_sc rfl (t_sc rfl t_sn)))) ?_
                exact ih23 _ (by omega) (z38) (Int.le_trans (by decide : (0:Int) ≤ 1) l38) u38 (by
                                                            intro u D hu hl hc hb
                                                            have g1 := j23_0 u D hu hl hc hb
                                                            have ha : a5 = u := Value.ref.inj (e5.symm.trans hu)
                                                            subst ha
                                                            have hv := s_bw_e (q28 D hl hc) (q29 D hl hc) e30 e31
                                                            have hq := q32 D hl hc hb
                                                            rw [hv] at hq
                                                            exact s_cl_s g1 (by omega) (fun hh => absurd (hq.trans hh) (by have z1 : (1 : Int32).toInt = 1 := rfl; omega)) (by omega)) rfl
          refine ev_sub (lo := [(3, .int 0), (0, .ref 0), (1, .int ar1), (2, .int ar2)]) rfl (t_sc rfl (t_sc rfl (t_sc rfl (t_sc rfl t_sn)))) ?_
          exact L23 _ (0) (by decide : (0:Int) ≤ (0:Int32).toInt) (Int.le_trans (by decide : (0:Int32).toInt ≤ (0:Int)) (by decide : (0:Int) ≤ 13)) (fun u D hu hl hc hb => rfl) rfl
noncomputable def wl_e_clearBeats : List (Nat × Nat) := [(69, 2), (69, 29), (78, 9999), (79, 9999), (80, 9999)]
noncomputable def Q_e_clearBeats (gi : Nat → Nat → Int32) (gl : Nat → Nat → Int64) (gr : Nat → Nat → Value) (ar1 : Int32) (ar2 : Int32) : Int32 → (Nat → Nat → Int32) → (Nat → Nat → Int64) → (Nat → Nat → Value) → Prop := fun (v : Int32) (gi2 : Nat → Nat → Int32) (gl2 : Nat → Nat → Int64) (gr2 : Nat → Nat → Value) => ∀ D : s_D, t_ME 0 gi D → t_Cb D → ((0 ≤ ar1.toInt ∧ ar1.toInt < D 0 ∧ 0 ≤ ar2.toInt ∧ ar2.toInt < D 0) → v.toInt = s_cl D ar1.toInt ar2.toInt 13 0) ∧ (¬ (0 ≤ ar1.toInt ∧ ar1.toInt < D 0 ∧ 0 ≤ ar2.toInt ∧ ar2.toInt < D 0) → v.toInt = -1)
theorem c_e_clearBeats {X : x_Ext} {d : Nat} {sh : List (Nat ⊕ (Nat × Nat))} {gi : Nat → Nat → Int32} {gl : Nat → Nat → Int64} {gr : Nat → Nat → Value} (hI : t_I sh gi gr) (ar1 : Int32) (ar2 : Int32) : x_Me X (d + 5) n_X12_clearBeats [.ref 69, .int ar1, .int ar2] (sh, gi, gl, gr) (t_PI wl_e_clearBeats sh gi gl gr (-1) 12 (Q_e_clearBeats gi gl gr ar1 ar2)) := by
  have hX : t_X wl_e_clearBeats sh gi gl gr gi gl gr := t_X.rf
  refine me_i f_X12_clearBeats (hI.wf.s rfl) rfl rfl rfl ?_
  refine ev_loc f_X12_clearBeats (nx := 1) rfl rfl rfl rfl ?_
  refine ev_loc f_X12_clearBeats (nx := 2) rfl rfl rfl rfl ?_
  refine ev_inV2 f_X12_clearBeats (nx := 5) (lo2 := [(0, .ref 69), (1, .int ar1)]) rfl rfl rfl rfl f_X12_isPort (hI.wf.s rfl) rfl rfl rfl rfl rfl ?_
  refine ev_loc f_X12_isPort (nx := 1) rfl rfl rfl rfl ?_
  refine ev_if f_X12_isPort (t1 := 18) (t2 := 4) rfl rfl rfl (fun h1 => ?_) (fun h1 => ?_)
  · have u2 : ar1.toInt ≤ (-1) := t_ltu h1 (by decide : (0:Int32).toInt ≤ (0:Int)) rfl
    refine ev_ic f_X12_isPort (nx := 19) (v := 0) rfl (by decide) rfl ?_
    refine ev_retK1 f_X12_isPort rfl rfl rfl ?_
    refine ev_t f_X12_clearBeats (t1 := 16) (t2 := 8) rfl rfl rfl (by decide) ?_
    refine ev_loc f_X12_clearBeats (nx := 17) rfl rfl rfl rfl ?_
    refine ev_ic f_X12_clearBeats (nx := 18) (v := 1) rfl (by decide) rfl ?_
    refine ev_inV2 f_X12_clearBeats (nx := 21) (lo2 := [(0, .ref 69), (1, .int 1)]) rfl rfl rfl rfl f_X12_refuse (hI.wf.s rfl) rfl rfl rfl rfl rfl ?_
    refine ev_loc f_X12_refuse (nx := 1) rfl rfl rfl rfl ?_
    refine ev_loc f_X12_refuse (nx := 2) rfl rfl rfl rfl ?_
    refine ev_putIT f_X12_refuse (nx := 5) rfl (hI.wf.s rfl) rfl rfl rfl (hI.put0 (hI.wf.s rfl) rfl rfl) (hX.upI rfl) (fun g3 e3 hI hX => ?_)
    refine ev_ic f_X12_refuse (nx := 6) (v := -1) rfl (by decide) rfl ?_
    refine ev_retK1 f_X12_refuse rfl rfl rfl ?_
    exact ev_ret f_X12_clearBeats rfl rfl rfl ⟨_, _, _, rfl, hI, hX, ⟨_, rfl, (by decide : ((-1):Int) ≤ ((-1):Int32).toInt), (Int.le_trans (by decide : ((-1):Int32).toInt ≤ ((-1):Int)) (by decide : ((-1):Int) ≤ 12)), (show ∀ D : s_D, t_ME 0 gi D → t_Cb D → ((0 ≤ ar1.toInt ∧ ar1.toInt < D 0 ∧ 0 ≤ ar2.toInt ∧ ar2.toInt < D 0) → ((-1) : Int) = s_cl D ar1.toInt ar2.toInt 13 0) ∧ (¬ (0 ≤ ar1.toInt ∧ ar1.toInt < D 0 ∧ 0 ≤ ar2.toInt ∧ ar2.toInt < D 0) → ((-1) : Int) = -1) from (by
                                                            intro D hm hb
                                                            have h0 : (gi 70 0).toInt = D 0 := hm.1.1.1
                                                            exact ⟨fun h => absurd h (by omega), fun _ => rfl⟩))⟩⟩
  · have l4 : 0 ≤ ar1.toInt := t_lel (t_nlt h1) (by decide : (0:Int) ≤ (0:Int32).toInt)
    refine ev_loc f_X12_isPort (nx := 5) rfl rfl rfl rfl ?_
    refine ev_loc f_X12_isPort (nx := 6) rfl rfl rfl rfl ?_
    refine ev_getR f_X12_isPort (nx := 9) rfl (hI.wf.s rfl) rfl rfl (hI.wf.r rfl) rfl rfl ?_
    refine ev_ic f_X12_isPort (nx := 10) (v := 0) rfl (by decide) rfl ?_
    obtain ⟨l5, u5⟩ := hI.ab (by decide +kernel : t_abr 70 0 0 0 6 = true) (Nat.le_refl _) (Nat.le_refl _)
    refine ev_ialdv f_X12_isPort (nx := 11) (w := (gi 70 0)) rfl (hI.wf.s rfl) (by decide) (rfl : (0 : Int32).toNatClampNeg = 0) (by decide) rfl rfl ?_
    refine ev_if f_X12_isPort (t1 := 18) (t2 := 14) rfl rfl rfl (fun h6 => ?_) (fun h6 => ?_)
    · have r7 : (gi 70 0).toInt ≤ ar1.toInt := Int32.le_iff_toInt_le.mp h6
      refine ev_ic f_X12_isPort (nx := 19) (v := 0) rfl (by decide) rfl ?_
      refine ev_retK1 f_X12_isPort rfl rfl rfl ?_
      refine ev_t f_X12_clearBeats (t1 := 16) (t2 := 8) rfl rfl rfl (by decide) ?_
      refine ev_loc f_X12_clearBeats (nx := 17) rfl rfl rfl rfl ?_
      refine ev_ic f_X12_clearBeats (nx := 18) (v := 1) rfl (by decide) rfl ?_
      refine ev_inV2 f_X12_clearBeats (nx := 21) (lo2 := [(0, .ref 69), (1, .int 1)]) rfl rfl rfl rfl f_X12_refuse (hI.wf.s rfl) rfl rfl rfl rfl rfl ?_
      refine ev_loc f_X12_refuse (nx := 1) rfl rfl rfl rfl ?_
      refine ev_loc f_X12_refuse (nx := 2) rfl rfl rfl rfl ?_
      refine ev_putIT f_X12_refuse (nx := 5) rfl (hI.wf.s rfl) rfl rfl rfl (hI.put0 (hI.wf.s rfl) rfl rfl) (hX.upI rfl) (fun g8 e8 hI hX => ?_)
      refine ev_ic f_X12_refuse (nx := 6) (v := -1) rfl (by decide) rfl ?_
      refine ev_retK1 f_X12_refuse rfl rfl rfl ?_
      exact ev_ret f_X12_clearBeats rfl rfl rfl ⟨_, _, _, rfl, hI, hX, ⟨_, rfl, (by decide : ((-1):Int) ≤ ((-1):Int32).toInt), (Int.le_trans (by decide : ((-1):Int32).toInt ≤ ((-1):Int)) (by decide : ((-1):Int) ≤ 12)), (show ∀ D : s_D, t_ME 0 gi D → t_Cb D → ((0 ≤ ar1.toInt ∧ ar1.toInt < D 0 ∧ 0 ≤ ar2.toInt ∧ ar2.toInt < D 0) → ((-1) : Int) = s_cl D ar1.toInt ar2.toInt 13 0) ∧ (¬ (0 ≤ ar1.toInt ∧ ar1.toInt < D 0 ∧ 0 ≤ ar2.toInt ∧ ar2.toInt < D 0) → ((-1) : Int) = -1) from (by
                                                            intro D hm hb
                                                            have h0 : (gi 70 0).toInt = D 0 := hm.1.1.1
                                                            exact ⟨fun h => absurd h (by omega), fun _ => rfl⟩))⟩⟩
    · have r9 : ar1.toInt < (gi 70 0).toInt := Int32.lt_iff_toInt_lt.mp (t_nle h6)
      have u10 : ar1.toInt ≤ 5 := t_ltu (t_nle h6) u5 rfl
      have l11 : 1 ≤ (gi 70 0).toInt := t_ltl (t_nle h6) l4 rfl
      refine ev_ic f_X12_isPort (nx := 15) (v := 1) rfl (by decide) rfl ?_
      refine ev_jmp f_X12_isPort (nx := 19) rfl rfl rfl ?_
      refine ev_retK1 f_X12_isPort rfl rfl rfl ?_
      refine ev_f f_X12_clearBeats (t1 := 16) (t2 := 8) rfl rfl rfl (by decide) ?_
      refine ev_loc f_X12_clearBeats (nx := 9) rfl rfl rfl rfl ?_
      refine ev_loc f_X12_clearBeats (nx := 10) rfl rfl rfl rfl ?_
      refine ev_inV2 f_X12_clearBeats (nx := 13) (lo2 := [(0, .ref 69), (1, .int ar2)]) rfl rfl rfl rfl f_X12_isPort (hI.wf.s rfl) rfl rfl rfl rfl rfl ?_
      refine ev_loc f_X12_isPort (nx := 1) rfl rfl rfl rfl ?_
      refine ev_if f_X12_isPort (t1 := 18) (t2 := 4) rfl rfl rfl (fun h12 => ?_) (fun h12 => ?_)
      · have u13 : ar2.toInt ≤ (-1) := t_ltu h12 (by decide : (0:Int32).toInt ≤ (0:Int)) rfl
        refine ev_ic f_X12_isPort (nx := 19) (v := 0) rfl (by decide) rfl ?_
        refine ev_retK1 f_X12_isPort rfl rfl rfl ?_
        refine ev_t f_X12_clearBeats (t1 := 16) (t2 := 22) rfl rfl rfl (by decide) ?_
        refine ev_loc f_X12_clearBeats (nx := 17) rfl rfl rfl rfl ?_
        refine ev_ic f_X12_clearBeats (nx := 18) (v := 1) rfl (by decide) rfl ?_
        refine ev_inV2 f_X12_clearBeats (nx := 21) (lo2 := [(0, .ref 69), (1, .int 1)]) rfl rfl rfl rfl f_X12_refuse (hI.wf.s rfl) rfl rfl rfl rfl rfl ?_
        refine ev_loc f_X12_refuse (nx := 1) rfl rfl rfl rfl ?_
        refine ev_loc f_X12_refuse (nx := 2) rfl rfl rfl rfl ?_
        refine ev_putIT f_X12_refuse (nx := 5) rfl (hI.wf.s rfl) rfl rfl rfl (hI.put0 (hI.wf.s rfl) rfl rfl) (hX.upI rfl) (fun g14 e14 hI hX => ?_)
        refine ev_ic f_X12_refuse (nx := 6) (v := -1) rfl (by decide) rfl ?_
        refine ev_retK1 f_X12_refuse rfl rfl rfl ?_
        exact ev_ret f_X12_clearBeats rfl rfl rfl ⟨_, _, _, rfl, hI, hX, ⟨_, rfl, (by decide : ((-1):Int) ≤ ((-1):Int32).toInt), (Int.le_trans (by decide : ((-1):Int32).toInt ≤ ((-1):Int)) (by decide : ((-1):Int) ≤ 12)), (show ∀ D : s_D, t_ME 0 gi D → t_Cb D → ((0 ≤ ar1.toInt ∧ ar1.toInt < D 0 ∧ 0 ≤ ar2.toInt ∧ ar2.toInt < D 0) → ((-1) : Int) = s_cl D ar1.toInt ar2.toInt 13 0) ∧ (¬ (0 ≤ ar1.toInt ∧ ar1.toInt < D 0 ∧ 0 ≤ ar2.toInt ∧ ar2.toInt < D 0) → ((-1) : Int) = -1) from (by
                                                            intro D hm hb
                                                            have h0 : (gi 70 0).toInt = D 0 := hm.1.1.1
                                                            exact ⟨fun h => absurd h (by omega), fun _ => rfl⟩))⟩⟩
      · have l15 : 0 ≤ ar2.toInt := t_lel (t_nlt h12) (by decide : (0:Int) ≤ (0:Int32).toInt)
        refine ev_loc f_X12_isPort (nx := 5) rfl rfl rfl rfl ?_
        refine ev_loc f_X12_isPort (nx := 6) rfl rfl rfl rfl ?_
        refine ev_getR f_X12_isPort (nx := 9) rfl (hI.wf.s rfl) rfl rfl (hI.wf.r rfl) rfl rfl ?_
        refine ev_ic f_X12_isPort (nx := 10) (v := 0) rfl (by decide) rfl ?_
        refine ev_ialdv f_X12_isPort (nx := 11) (w := (gi 70 0)) rfl (hI.wf.s rfl) (by decide) (rfl : (0 : Int32).toNatClampNeg = 0) (by decide) rfl rfl ?_
        refine ev_if f_X12_isPort (t1 := 18) (t2 := 14) rfl rfl rfl (fun h17 => ?_) (fun h17 => ?_)
        · have r18 : (gi 70 0).toInt ≤ ar2.toInt := Int32.le_iff_toInt_le.mp h17
          have l19 : 1 ≤ ar2.toInt := t_lel h17 l11
          refine ev_ic f_X12_isPort (nx := 19) (v := 0) rfl (by decide) rfl ?_
          refine ev_retK1 f_X12_isPort rfl rfl rfl ?_
          refine ev_t f_X12_clearBeats (t1 := 16) (t2 := 22) rfl rfl rfl (by decide) ?_
          refine ev_loc f_X12_clearBeats (nx := 17) rfl rfl rfl rfl ?_
          refine ev_ic f_X12_clearBeats (nx := 18) (v := 1) rfl (by decide) rfl ?_
          refine ev_inV2 f_X12_clearBeats (nx := 21) (lo2 := [(0, .ref 69), (1, .int 1)]) rfl rfl rfl rfl f_X12_refuse (hI.wf.s rfl) rfl rfl rfl rfl rfl ?_
          refine ev_loc f_X12_refuse (nx := 1) rfl rfl rfl rfl ?_
          refine ev_loc f_X12_refuse (nx := 2) rfl rfl rfl rfl ?_
          refine ev_putIT f_X12_refuse (nx := 5) rfl (hI.wf.s rfl) rfl rfl rfl (hI.put0 (hI.wf.s rfl) rfl rfl) (hX.upI rfl) (fun g20 e20 hI hX => ?_)
          refine ev_ic f_X12_refuse (nx := 6) (v := -1) rfl (by decide) rfl ?_
          refine ev_retK1 f_X12_refuse rfl rfl rfl ?_
          exact ev_ret f_X12_clearBeats rfl rfl rfl ⟨_, _, _, rfl, hI, hX, ⟨_, rfl, (by decide : ((-1):Int) ≤ ((-1):Int32).toInt), (Int.le_trans (by decide : ((-1):Int32).toInt ≤ ((-1):Int)) (by decide : ((-1):Int) ≤ 12)), (show ∀ D : s_D, t_ME 0 gi D → t_Cb D → ((0 ≤ ar1.toInt ∧ ar1.toInt < D 0 ∧ 0 ≤ ar2.toInt ∧ ar2.toInt < D 0) → ((-1) : Int) = s_cl D ar1.toInt ar2.toInt 13 0) ∧ (¬ (0 ≤ ar1.toInt ∧ ar1.toInt < D 0 ∧ 0 ≤ ar2.toInt ∧ ar2.toInt < D 0) → ((-1) : Int) = -1) from (by
                                                            intro D hm hb
                                                            have h0 : (gi 70 0).toInt = D 0 := hm.1.1.1
                                                            exact ⟨fun h => absurd h (by omega), fun _ => rfl⟩))⟩⟩
        · have r21 : ar2.toInt < (gi 70 0).toInt := Int32.lt_iff_toInt_lt.mp (t_nle h17)
          have u22 : ar2.toInt ≤ 5 := t_ltu (t_nle h17) u5 rfl
          refine ev_ic f_X12_isPort (nx := 15) (v := 1) rfl (by decide) rfl ?_
          refine ev_jmp f_X12_isPort (nx := 19) rfl rfl rfl ?_
          refine ev_retK1 f_X12_isPort rfl rfl rfl ?_
          refine ev_f f_X12_clearBeats (t1 := 16) (t2 := 22) rfl rfl rfl (by decide) ?_
          refine ev_ic f_X12_clearBeats (nx := 23) (v := 0) rfl (by decide) rfl ?_
          refine ev_loc f_X12_clearBeats (nx := 24) (lo' := [(3, .int 0), (0, .ref 69), (1, .int ar1), (2, .int ar2)]) rfl rfl rfl rfl ?_
          have L23 : ∀ (m23 : Nat) (gi23 : Nat → Nat → Int32) (gl23 : Nat → Nat → Int64) (gr23 : Nat → Nat → Value) (y23_3 : Int32), t_I sh gi23 gr23 → t_X wl_e_clearBeats sh gi gl gr gi23 gl23 gr23 → 0 ≤ y23_3.toInt → y23_3.toInt ≤ 13 → gi23 70 0 = (gi 70 0) → (∀ j, gi23 70 j = gi 70 j) → (∀ D : s_D, t_ME 0 gi D → t_Cb D → s_cl D ar1.toInt ar2.toInt 13 0 = s_cl D ar1.toInt ar2.toInt (13 - y23_3.toInt).toNat y23_3.toInt) → (13 - y23_3.toInt).toNat = m23 → x_Ev X (d + 5) n_X12_clearBeats 24 [(3, .int y23_3), (0, .ref 69), (1, .int ar1), (2, .int ar2)] [] (sh, gi23, gl23, gr23) (t_PI wl_e_clearBeats sh gi gl gr (-1) 12 (Q_e_clearBeats gi gl gr ar1 ar2)) := by
            intro m23
            induction m23 using Nat.strongRecOn with
            | _ m23 ih23 =>
            intro gi23 gl23 gr23 y23_3 hI hX l23_3 u23_3 c23_0 j23_0 j23_1 hm23
            refine ev_loc f_X12_clearBeats (nx := 25) rfl rfl rfl rfl ?_
            refine ev_bp f_X12_clearBeats (nx := 27) (v := 12) rfl (by decide) rfl ?_
            refine ev_if f_X12_clearBeats (t1 := 67) (t2 := 30) rfl rfl rfl (fun h24 => ?_) (fun h24 => ?_)
            · have l25 : 13 ≤ y23_3.toInt := t_ltl h24 (by decide : (12:Int) ≤ (12:Int32).toInt) rfl
              refine ev_loc f_X12_clearBeats (nx := 68) rfl rfl rfl rfl ?_
              refine ev_bp f_X12_clearBeats (nx := 70) (v := 6) rfl (by decide) rfl ?_
              refine ev_inV2 f_X12_clearBeats (nx := 73) (lo2 := [(0, .ref 69), (1, .int 6)]) rfl rfl rfl rfl f_X12_refuse (hI.wf.s rfl) rfl rfl rfl rfl rfl ?_
              refine ev_loc f_X12_refuse (nx := 1) rfl rfl rfl rfl ?_
              refine ev_loc f_X12_refuse (nx := 2) rfl rfl rfl rfl ?_
              refine ev_putIT f_X12_refuse (nx := 5) rfl (hI.wf.s rfl) rfl rfl rfl (hI.put0 (hI.wf.s rfl) rfl rfl) (hX.upI rfl) (fun g26 e26 hI hX => ?_)
              refine ev_ic f_X12_refuse (nx := 6) (v := -1) rfl (by decide) rfl ?_
              refine ev_retK1 f_X12_refuse rfl rfl rfl ?_
              exact ev_ret f_X12_clearBeats rfl rfl rfl ⟨_, _, _, rfl, hI, hX, ⟨_, rfl, (by decide : ((-1):Int) ≤ ((-1):Int32).toInt), (Int.le_trans (by decide : ((-1):Int32).toInt ≤ ((-1):Int)) (by decide : ((-1):Int) ≤ 12)), (show ∀ D : s_D, t_ME 0 gi D → t_Cb D → ((0 ≤ ar1.toInt ∧ ar1.toInt < D 0 ∧ 0 ≤ ar2.toInt ∧ ar2.toInt < D 0) → ((-1) : Int) = s_cl D ar1.toInt ar2.toInt 13 0) ∧ (¬ (0 ≤ ar1.toInt ∧ ar1.toInt < D 0 ∧ 0 ≤ ar2.toInt ∧ ar2.toInt < D 0) → ((-1) : Int) = -1) from (by
                                                            intro D hm hb
                                                            have g1 := j23_1 D hm hb
                                                            have h00 : (gi 70 0).toInt = D 0 := hm.1.1.1
                                                            refine ⟨fun _ => ?_, fun h => absurd (show _ from ⟨by omega, by omega, by omega, by omega⟩) h⟩
                                                            exact (s_cl_e g1 (by omega)).symm))⟩⟩
            · have u27 : y23_3.toInt ≤ 12 := t_leu (t_nlt h24) (by decide : (12:Int32).toInt ≤ (12:Int))
              refine ev_loc f_X12_clearBeats (nx := 31) rfl rfl rfl rfl ?_
              refine ev_loc f_X12_clearBeats (nx := 32) rfl rfl rfl rfl ?_
              refine ev_loc f_X12_clearBeats (nx := 33) rfl rfl rfl rfl ?_
              refine ev_qL0 f_X12_clearBeats (nx := 36) (r := [.ref 69]) rfl rfl rfl rfl rfl rfl rfl (c_n_heardOf hI (ar1) l4 u10) rfl (fun w28 q28 => ?_)
              have q28 : (0 ≤ w28.toInt ∧ w28.toInt < 8589934592) ∧ ∀ D : s_D, t_ME 0 gi23 D → ar1.toInt < D 0 → w28 = s_ec (s_so D ar1.toNatClampNeg) (D 7) := q28
              refine ev_loc f_X12_clearBeats (nx := 37) rfl rfl rfl rfl ?_
              refine ev_loc f_X12_clearBeats (nx := 38) rfl rfl rfl rfl ?_
              refine ev_qL0 f_X12_clearBeats (nx := 41) (r := [.long w28, .ref 69]) rfl rfl rfl rfl rfl rfl rfl (c_n_heardOf hI (ar2) l15 u22) rfl (fun w29 q29 => ?_)
              have q29 : (0 ≤ w29.toInt ∧ w29.toInt < 8589934592) ∧ ∀ D : s_D, t_ME 0 gi23 D → ar2.toInt < D 0 → w29 = s_ec (s_so D ar2.toNatClampNeg) (D 7) := q29
              refine ev_loc f_X12_clearBeats (nx := 42) rfl rfl rfl rfl ?_
              refine ev_anyLE f_X12_clearBeats (nx := 43) rfl rfl rfl rfl (fun z30 e30 => ?_)
              refine ev_anyLE f_X12_clearBeats (nx := 44) rfl rfl rfl rfl (fun z31 e31 => ?_)
              refine ev_qN f_X12_clearBeats (nx := 47) (r := []) rfl rfl rfl rfl rfl rfl rfl (c_n_findsReadings hI (z31)) rfl hX rfl (fun gi32 gl32 gr32 hI hX hC32 q32 => ?_)
              have q32 : (gi32 69 29).toInt ≤ 474 ∧ (∀ j, gi32 70 j = gi23 70 j) ∧ (∀ D : s_D, t_ME 0 gi23 D → t_Cb D → (gi32 69 29).toInt = s_ct D z31 (-1)) := q32
              refine ev_loc f_X12_clearBeats (nx := 48) rfl rfl rfl rfl ?_
              refine ev_getI f_X12_clearBeats (nx := 51) rfl (hI.wf.s rfl) rfl rfl rfl ?_
              obtain ⟨l33, u33⟩ := hI.b (hI.wf.s (k := 69) rfl) (t_bdK rfl : t_bd 11 29 = some (0, 500))
              refine ev_ic f_X12_clearBeats (nx := 52) (v := 1) rfl (by decide) rfl ?_
              refine ev_if f_X12_clearBeats (t1 := 55) (t2 := 61) rfl rfl rfl (fun h34 => ?_) (fun h34 => ?_)
              · have u35 : (gi32 69 29).toInt ≤ 1 := t_equ h34 (by decide : (1:Int32).toInt ≤ (1:Int))
                have l36 : 1 ≤ (gi32 69 29).toInt := t_eql h34 (by decide : (1:Int) ≤ (1:Int32).toInt)
                refine ev_loc f_X12_clearBeats (nx := 56) rfl rfl rfl rfl ?_
                refine ev_loc f_X12_clearBeats (nx := 57) rfl rfl rfl rfl ?_
                refine ev_inV2 f_X12_clearBeats (nx := 60) (lo2 := [(0, .ref 69), (1, .int y23_3)]) rfl rfl rfl rfl f_X12_gives (hI.wf.s rfl) rfl rfl rfl rfl rfl ?_
                refine ev_loc f_X12_gives (nx := 1) rfl rfl rfl rfl ?_
                refine ev_ic f_X12_gives (nx := 2) (v := 0) rfl (by decide) rfl ?_
                refine ev_putIT f_X12_gives (nx := 5) rfl (hI.wf.s rfl) rfl rfl rfl (hI.put0 (hI.wf.s rfl) rfl rfl) (hX.upI rfl) (fun g37 e37 hI hX => ?_)
                refine ev_loc f_X12_gives (nx := 6) rfl rfl rfl rfl ?_
                refine ev_retK1 f_X12_gives rfl rfl rfl ?_
                exact ev_ret f_X12_clearBeats rfl rfl rfl ⟨_, _, _, rfl, hI, hX, ⟨_, rfl, (Int.le_trans (by decide : ((-1):Int) ≤ 0) l23_3), u27, (show ∀ D : s_D, t_ME 0 gi D → t_Cb D → ((0 ≤ ar1.toInt ∧ ar1.toInt < D 0 ∧ 0 ≤ ar2.toInt ∧ ar2.toInt < D 0) → y23_3.toInt = s_cl D ar1.toInt ar2.toInt 13 0) ∧ (¬ (0 ≤ ar1.toInt ∧ ar1.toInt < D 0 ∧ 0 ≤ ar2.toInt ∧ ar2.toInt < D 0) → y23_3.toInt = -1) from (by
                                                            intro D hm hb
                                                            have g1 := j23_1 D hm hb
                                                            have h00 : (gi 70 0).toInt = D 0 := hm.1.1.1
                                                            refine ⟨fun _ => ?_, fun h => absurd (show _ from ⟨by omega, by omega, by omega, by omega⟩) h⟩
                                                            have hmN : t_ME 0 gi23 D := hm.mv hb (fun j _ _ _ => j23_0 (0 + j))
                                                            have h0 : (gi 70 0).toInt = D 0 := hm.1.1.1
                                                            have hw28 : w28 = s_hd D ar1.toInt := (q28.2 D hmN (by omega)).trans ((s_hd_i (D := D) (p := ar1.toInt) (by omega) (by omega)).trans (by rw [show ar1.toInt.toNat = ar1.toNatClampNeg from (by have := t_clamp (i := ar1) (by omega); omega)])).symm
                                                            have hw29 : w29 = s_hd D ar2.toInt := (q29.2 D hmN (by omega)).trans ((s_hd_i (D := D) (p := ar2.toInt) (by omega) (by omega)).trans (by rw [show ar2.toInt.toNat = ar2.toNatClampNeg from (by have := t_clamp (i := ar2) (by omega); omega)])).symm
                                                            have hv := s_bw_e hw28 hw29 e30 e31
                                                            have hq := q32.2.2 D hmN hb
                                                            rw [hv] at hq
                                                            have ff38 : (g37 69 29).toInt = (gi32 69 29).toInt := congrArg Int32.toInt ((by rw [e37]; exact x_up2_off (Or.inr (by decide)) : g37 69 29 = gi32 69 29).trans rfl)
                                                            exact (s_cl_f g1 (by omega) (hq.symm.trans (by have z1 : (1 : Int32).toInt = 1 := rfl; omega))).symm))⟩⟩
              · have r39 : (gi32 69 29).toInt ≠ 1 := fun e => h34 (Int32.toInt_inj.mp (e.trans (by decide : (1:Int) = (1 : Int32).toInt)))
                refine ev_incR f_X12_clearBeats (nx := 64) (c := 1) (l := 1) (u := 13) rfl rfl (by decide) (by decide) l23_3 u27 rfl rfl (by decide) (by decide) rfl (fun z40 e40 l40 u40 => ?_)
                refine ev_jmp f_X12_clearBeats (nx := 24) rfl rfl rfl ?_
                refine ev_sub (lo := [(3, .int z40), (0, .ref 69), (1, .int ar1), (2, .int ar2)]) rfl (t_sc rfl (t_sc rfl (t_sc rfl (t_sc rfl t_sn)))) ?_
                exact ih23 _ (by omega) gi32 gl32 gr32 (z40) hI hX  (Int.le_trans (by decide : (0:Int) ≤ 1) l40) u40 ((hC32.1 70 0 rfl).1.trans c23_0) (fun j => (congrFun ((funext (fun j => (hC32.1 70 j rfl).1) : gi32 70 = gi23 70)) j).trans (j23_0 j)) (by
                                                            intro D hm hb
                                                            have g1 := j23_1 D hm hb
                                                            have hmN : t_ME 0 gi23 D := hm.mv hb (fun j _ _ _ => j23_0 (0 + j))
                                                            have h0 : (gi 70 0).toInt = D 0 := hm.1.1.1
                                                            have hw28 : w28 = s_hd D ar1.toInt := (q28.2 D hmN (by omega)).trans ((s_hd_i (D := D) (p := ar1.toInt) (by omega) (by omega)).trans (by rw [show ar1.toInt.toNat = ar1.toNatClampNeg from (by have := t_clamp (i := ar1) (by omega); omega)])).symm
                                                            have hw29 : w29 = s_hd D ar2.toInt := (q29.2 D hmN (by omega)).trans ((s_hd_i (D := D) (p := ar2.toInt) (by omega) (by omega)).trans (by rw [show ar2.toInt.toNat = ar2.toNatClampNeg from (by have := t_clamp (i := ar2) (by omega); omega)])).symm
                                                            have hv := s_bw_e hw28 hw29 e30 e31
                                                            have hq := q32.2.2 D hmN hb
                                                            rw [hv] at hq
                                                            exact s_cl_s g1 (by omega) (fun hh => absurd (hq.trans hh) (by have z1 : (1 : Int32).toInt = 1 := rfl; omega)) (by omega)) rfl
          refine ev_sub (lo := [(3, .int 0), (0, .ref 69), (1, .int ar1), (2, .int ar2)]) rfl (t_sc rfl (t_sc rfl (t_sc rfl (t_sc rfl t_sn)))) ?_
          exact L23 _ gi gl gr (0) hI hX  (by decide : (0:Int) ≤ (0:Int32).toInt) (Int.le_trans (by decide : (0:Int32).toInt ≤ (0:Int)) (by decide : (0:Int) ≤ 13)) rfl (fun _ => rfl) (fun D hm hb => rfl) rfl
noncomputable def wl_d_doubt : List (Nat × Nat) := [(0, 0), (0, 1), (0, 2)]
noncomputable def Q_d_doubt (gi : Nat → Nat → Int32) (gl : Nat → Nat → Int64) (gr : Nat → Nat → Value) (ar1 : Int64) (ar2 : Int32) : Int32 → (Nat → Nat → Int32) → (Nat → Nat → Int64) → (Nat → Nat → Value) → Prop := fun (v : Int32) (gi2 : Nat → Nat → Int32) (gl2 : Nat → Nat → Int64) (gr2 : Nat → Nat → Value) => ∀ (u : Nat) (D : s_D), gr 0 6 = .ref u → t_VL gr u → t_CV gi gl u D → t_Cb D → ((1 ≤ ar1.toInt ∧ 0 ≤ ar2.toInt ∧ ar2.toInt < D 0 ∧ ¬ s_ct D ar1 (-1) = 0) → v.toInt = 1) ∧ (¬ (1 ≤ ar1.toInt ∧ 0 ≤ ar2.toInt ∧ ar2.toInt < D 0 ∧ ¬ s_ct D ar1 (-1) = 0) → v.toInt = 0)
theorem c_d_doubt {X : x_Ext} {d : Nat} {sh : List (Nat ⊕ (Nat × Nat))} {gi : Nat → Nat → Int32} {gl : Nat → Nat → Int64} {gr : Nat → Nat → Value} (hI : t_I sh gi gr) (ar1 : Int64) (ar2 : Int32) : x_Me X (d + 6) n_X11_doubt [.ref 0, .long ar1, .int ar2] (sh, gi, gl, gr) (t_PI wl_d_doubt sh gi gl gr 0 1 (Q_d_doubt gi gl gr ar1 ar2)) := by
  have hX : t_X wl_d_doubt sh gi gl gr gi gl gr := t_X.rf
  refine me_i f_X11_doubt (hI.wf.s rfl) rfl rfl rfl ?_
  refine ev_loc f_X11_doubt (nx := 1) rfl rfl rfl rfl ?_
  refine ev_lc f_X11_doubt (nx := 2) (v := 1) rfl (by decide) rfl ?_
  refine ev_anyIE f_X11_doubt (nx := 3) rfl rfl rfl rfl (fun z1 e1 => ?_)
  refine ev_if f_X11_doubt (t1 := 14) (t2 := 6) rfl rfl rfl (fun h2 => ?_) (fun h2 => ?_)
  · have u3 : z1.toInt ≤ (-1) := t_ltu h2 (by decide : (0:Int32).toInt ≤ (0:Int)) rfl
    refine ev_loc f_X11_doubt (nx := 15) rfl rfl rfl rfl ?_
    refine ev_ic f_X11_doubt (nx := 16) (v := 1) rfl (by decide) rfl ?_
    refine ev_inV2 f_X11_doubt (nx := 19) (lo2 := [(0, .ref 0), (1, .int 1)]) rfl rfl rfl rfl f_X11_deny (hI.wf.s rfl) rfl rfl rfl rfl rfl ?_
    refine ev_loc f_X11_deny (nx := 1) rfl rfl rfl rfl ?_
    refine ev_loc f_X11_deny (nx := 2) rfl rfl rfl rfl ?_
    refine ev_putIT f_X11_deny (nx := 5) rfl (hI.wf.s rfl) rfl rfl rfl (hI.put0 (hI.wf.s rfl) rfl rfl) (hX.upI rfl) (fun g4 e4 hI hX => ?_)
    refine ev_ic f_X11_deny (nx := 6) (v := 0) rfl (by decide) rfl ?_
    refine ev_retK1 f_X11_deny rfl rfl rfl ?_
    exact ev_ret f_X11_doubt rfl rfl rfl ⟨_, _, _, rfl, hI, hX, ⟨_, rfl, (by decide : (0:Int) ≤ (0:Int32).toInt), (Int.le_trans (by decide : (0:Int32).toInt ≤ (0:Int)) (by decide : (0:Int) ≤ 1)), (show ∀ (u : Nat) (D : s_D), gr 0 6 = .ref u → t_VL gr u → t_CV gi gl u D → t_Cb D → ((1 ≤ ar1.toInt ∧ 0 ≤ ar2.toInt ∧ ar2.toInt < D 0 ∧ ¬ s_ct D ar1 (-1) = 0) → (0 : Int) = 1) ∧ (¬ (1 ≤ ar1.toInt ∧ 0 ≤ ar2.toInt ∧ ar2.toInt < D 0 ∧ ¬ s_ct D ar1 (-1) = 0) → (0 : Int) = 0) from (by
                                                            intro u D hu hl hc hb
                                                            have hm := hc.1.1
                                                            have hlt := (t_lt1n e1 h2)
                                                            exact ⟨fun h => absurd h (by omega), fun _ => rfl⟩))⟩⟩
  · have l5 : 0 ≤ z1.toInt := t_lel (t_nlt h2) (by decide : (0:Int) ≤ (0:Int32).toInt)
    refine ev_loc f_X11_doubt (nx := 7) rfl rfl rfl rfl ?_
    refine ev_loc f_X11_doubt (nx := 8) rfl rfl rfl rfl ?_
    refine ev_inV2 f_X11_doubt (nx := 11) (lo2 := [(0, .ref 0), (1, .int ar2)]) rfl rfl rfl rfl f_X11_isPort (hI.wf.s rfl) rfl rfl rfl rfl rfl ?_
    refine ev_loc f_X11_isPort (nx := 1) rfl rfl rfl rfl ?_
    refine ev_if f_X11_isPort (t1 := 19) (t2 := 4) rfl rfl rfl (fun h6 => ?_) (fun h6 => ?_)
    · have u7 : ar2.toInt ≤ (-1) := t_ltu h6 (by decide : (0:Int32).toInt ≤ (0:Int)) rfl
      refine ev_ic f_X11_isPort (nx := 20) (v := 0) rfl (by decide) rfl ?_
      refine ev_retK1 f_X11_isPort rfl rfl rfl ?_
      refine ev_t f_X11_doubt (t1 := 14) (t2 := 20) rfl rfl rfl (by decide) ?_
      refine ev_loc f_X11_doubt (nx := 15) rfl rfl rfl rfl ?_
      refine ev_ic f_X11_doubt (nx := 16) (v := 1) rfl (by decide) rfl ?_
      refine ev_inV2 f_X11_doubt (nx := 19) (lo2 := [(0, .ref 0), (1, .int 1)]) rfl rfl rfl rfl f_X11_deny (hI.wf.s rfl) rfl rfl rfl rfl rfl ?_
      refine ev_loc f_X11_deny (nx := 1) rfl rfl rfl rfl ?_
      refine ev_loc f_X11_deny (nx := 2) rfl rfl rfl rfl ?_
      refine ev_putIT f_X11_deny (nx := 5) rfl (hI.wf.s rfl) rfl rfl rfl (hI.put0 (hI.wf.s rfl) rfl rfl) (hX.upI rfl) (fun g8 e8 hI hX => ?_)
      refine ev_ic f_X11_deny (nx := 6) (v := 0) rfl (by decide) rfl ?_
      refine ev_retK1 f_X11_deny rfl rfl rfl ?_
      exact ev_ret f_X11_doubt rfl rfl rfl ⟨_, _, _, rfl, hI, hX, ⟨_, rfl, (by decide : (0:Int) ≤ (0:Int32).toInt), (Int.le_trans (by decide : (0:Int32).toInt ≤ (0:Int)) (by decide : (0:Int) ≤ 1)), (show ∀ (u : Nat) (D : s_D), gr 0 6 = .ref u → t_VL gr u → t_CV gi gl u D → t_Cb D → ((1 ≤ ar1.toInt ∧ 0 ≤ ar2.toInt ∧ ar2.toInt < D 0 ∧ ¬ s_ct D ar1 (-1) = 0) → (0 : Int) = 1) ∧ (¬ (1 ≤ ar1.toInt ∧ 0 ≤ ar2.toInt ∧ ar2.toInt < D 0 ∧ ¬ s_ct D ar1 (-1) = 0) → (0 : Int) = 0) from (by
                                                            intro u D hu hl hc hb
                                                            have hm := hc.1.1
                                                            have hlt := (t_lt1p e1 h2)
                                                            exact ⟨fun h => absurd h (by omega), fun _ => rfl⟩))⟩⟩
    · have l9 : 0 ≤ ar2.toInt := t_lel (t_nlt h6) (by decide : (0:Int) ≤ (0:Int32).toInt)
      refine ev_loc f_X11_isPort (nx := 5) rfl rfl rfl rfl ?_
      refine ev_loc f_X11_isPort (nx := 6) rfl rfl rfl rfl ?_
      obtain ⟨a10, e10, p10⟩ := hI.2.2.2.1.1
      refine ev_getR f_X11_isPort (nx := 9) rfl (hI.wf.s rfl) rfl rfl e10 rfl rfl ?_
      refine ev_getI f_X11_isPort (nx := 12) rfl p10.1 rfl rfl rfl ?_
      obtain ⟨l11, u11⟩ := hI.b p10.1 (t_bdK rfl : t_bd 4 0 = some (0, 6))
      refine ev_if f_X11_isPort (t1 := 19) (t2 := 15) rfl rfl rfl (fun h12 => ?_) (fun h12 => ?_)
      · have r13 : (gi a10 0).toInt ≤ ar2.toInt := Int32.le_iff_toInt_le.mp h12
        refine ev_ic f_X11_isPort (nx := 20) (v := 0) rfl (by decide) rfl ?_
        refine ev_retK1 f_X11_isPort rfl rfl rfl ?_
        refine ev_t f_X11_doubt (t1 := 14) (t2 := 20) rfl rfl rfl (by decide) ?_
        refine ev_loc f_X11_doubt (nx := 15) rfl rfl rfl rfl ?_
        refine ev_ic f_X11_doubt (nx := 16) (v := 1) rfl (by decide) rfl ?_
        refine ev_inV2 f_X11_doubt (nx := 19) (lo2 := [(0, .ref 0), (1, .int 1)]) rfl rfl rfl rfl f_X11_deny (hI.wf.s rfl) rfl rfl rfl rfl rfl ?_
        refine ev_loc f_X11_deny (nx := 1) rfl rfl rfl rfl ?_
        refine ev_loc f_X11_deny (nx := 2) rfl rfl rfl rfl ?_
        refine ev_putIT f_X11_deny (nx := 5) rfl (hI.wf.s rfl) rfl rfl rfl (hI.put0 (hI.wf.s rfl) rfl rfl) (hX.upI rfl) (fun g14 e14 hI hX => ?_)
        refine ev_ic f_X11_deny (nx := 6) (v := 0) rfl (by decide) rfl ?_
        refine ev_retK1 f_X11_deny rfl rfl rfl ?_
        exact ev_ret f_X11_doubt rfl rfl rfl ⟨_, _, _, rfl, hI, hX, ⟨_, rfl, (by decide : (0:Int) ≤ (0:Int32).toInt), (Int.le_trans (by decide : (0:Int32).toInt ≤ (0:Int)) (by decide : (0:Int) ≤ 1)), (show ∀ (u : Nat) (D : s_D), gr 0 6 = .ref u → t_VL gr u → t_CV gi gl u D → t_Cb D → ((1 ≤ ar1.toInt ∧ 0 ≤ ar2.toInt ∧ ar2.toInt < D 0 ∧ ¬ s_ct D ar1 (-1) = 0) → (0 : Int) = 1) ∧ (¬ (1 ≤ ar1.toInt ∧ 0 ≤ ar2.toInt ∧ ar2.toInt < D 0 ∧ ¬ s_ct D ar1 (-1) = 0) → (0 : Int) = 0) from (by
                                                            intro u D hu hl hc hb
                                                            have ha : a10 = u := Value.ref.inj (e10.symm.trans hu)
                                                            subst ha
                                                            have hm := hc.1.1
                                                            have hlt := (t_lt1p e1 h2)
                                                            exact ⟨fun h => absurd h (by omega), fun _ => rfl⟩))⟩⟩
      · have r15 : ar2.toInt < (gi a10 0).toInt := Int32.lt_iff_toInt_lt.mp (t_nle h12)
        have u16 : ar2.toInt ≤ 5 := t_ltu (t_nle h12) u11 rfl
        have l17 : 1 ≤ (gi a10 0).toInt := t_ltl (t_nle h12) l9 rfl
        refine ev_ic f_X11_isPort (nx := 16) (v := 1) rfl (by decide) rfl ?_
        refine ev_jmp f_X11_isPort (nx := 20) rfl rfl rfl ?_
        refine ev_retK1 f_X11_isPort rfl rfl rfl ?_
        refine ev_f f_X11_doubt (t1 := 14) (t2 := 20) rfl rfl rfl (by decide) ?_
        refine ev_loc f_X11_doubt (nx := 21) rfl rfl rfl rfl ?_
        refine ev_getR f_X11_doubt (nx := 24) (v := .ref a10) rfl (hI.wf.s rfl) rfl rfl e10 rfl rfl ?_
        refine ev_loc f_X11_doubt (nx := 25) rfl rfl rfl rfl ?_
        refine ev_ic f_X11_doubt (nx := 26) (v := -1) rfl (by decide) rfl ?_
        refine ev_qI0 f_X11_doubt (nx := 29) (r := []) rfl rfl rfl rfl rfl rfl rfl (c_d_countReadings hI (a10) p10 (ar1) ((-1))) rfl (fun w18 l18 u18 q18 => ?_)
        have q18 : ∀ D : s_D, t_VL gr a10 → t_CV gi gl a10 D → t_Cb D → w18.toInt = s_ct D ar1 (-1) := q18
        refine ev_loc f_X11_doubt (nx := 31) (lo' := [(4, .int w18), (0, .ref 0), (1, .long ar1), (3, .int ar2)]) rfl rfl rfl rfl ?_
        refine ev_loc f_X11_doubt (nx := 33) rfl rfl rfl rfl ?_
        refine ev_if f_X11_doubt (t1 := 36) (t2 := 43) rfl rfl rfl (fun h19 => ?_) (fun h19 => ?_)
        · have u20 : w18.toInt ≤ 0 := t_equ h19 (by decide : (0:Int32).toInt ≤ (0:Int))
          refine ev_loc f_X11_doubt (nx := 37) rfl rfl rfl rfl ?_
          refine ev_bp f_X11_doubt (nx := 39) (v := 6) rfl (by decide) rfl ?_
          refine ev_inV2 f_X11_doubt (nx := 42) (lo2 := [(0, .ref 0), (1, .int 6)]) rfl rfl rfl rfl f_X11_deny (hI.wf.s rfl) rfl rfl rfl rfl rfl ?_
          refine ev_loc f_X11_deny (nx := 1) rfl rfl rfl rfl ?_
          refine ev_loc f_X11_deny (nx := 2) rfl rfl rfl rfl ?_
          refine ev_putIT f_X11_deny (nx := 5) rfl (hI.wf.s rfl) rfl rfl rfl (hI.put0 (hI.wf.s rfl) rfl rfl) (hX.upI rfl) (fun g21 e21 hI hX => ?_)
          refine ev_ic f_X11_deny (nx := 6) (v := 0) rfl (by decide) rfl ?_
          refine ev_retK1 f_X11_deny rfl rfl rfl ?_
          exact ev_ret f_X11_doubt rfl rfl rfl ⟨_, _, _, rfl, hI, hX, ⟨_, rfl, (by decide : (0:Int) ≤ (0:Int32).toInt), (Int.le_trans (by decide : (0:Int32).toInt ≤ (0:Int)) (by decide : (0:Int) ≤ 1)), (show ∀ (u : Nat) (D : s_D), gr 0 6 = .ref u → t_VL gr u → t_CV gi gl u D → t_Cb D → ((1 ≤ ar1.toInt ∧ 0 ≤ ar2.toInt ∧ ar2.toInt < D 0 ∧ ¬ s_ct D ar1 (-1) = 0) → (0 : Int) = 1) ∧ (¬ (1 ≤ ar1.toInt ∧ 0 ≤ ar2.toInt ∧ ar2.toInt < D 0 ∧ ¬ s_ct D ar1 (-1) = 0) → (0 : Int) = 0) from (by
                                                            intro u D hu hl hc hb
                                                            have ha : a10 = u := Value.ref.inj (e10.symm.trans hu)
                                                            subst ha
                                                            have hm := hc.1.1
                                                            have hlt := (t_lt1p e1 h2)
                                                            have hq := q18 D hl hc hb
                                                            exact ⟨fun h => absurd (hq.symm.trans (by have z0 : (0 : Int32).toInt = 0 := rfl; omega)) h.2.2.2, fun _ => rfl⟩))⟩⟩
        · have r22 : w18.toInt ≠ 0 := fun e => h19 (Int32.toInt_inj.mp (e.trans (by decide : (0:Int) = (0 : Int32).toInt)))
          have l23 : 1 ≤ w18.toInt := t_nel h19 l18 rfl rfl
          refine ev_loc f_X11_doubt (nx := 44) rfl rfl rfl rfl ?_
          refine ev_loc f_X11_doubt (nx := 45) rfl rfl rfl rfl ?_
          refine ev_getR f_X11_doubt (nx := 48) (v := .ref a10) rfl (hI.wf.s rfl) rfl rfl e10 rfl rfl ?_
          refine ev_loc f_X11_doubt (nx := 49) rfl rfl rfl rfl ?_
          refine ev_loc f_X11_doubt (nx := 50) rfl rfl rfl rfl ?_
          refine ev_qI0 f_X11_doubt (nx := 53) (r := [.ref 0]) rfl rfl rfl rfl rfl rfl rfl (c_d_countReadings hI (a10) p10 (ar1) (ar2)) rfl (fun w24 l24 u24 q24 => ?_)
          have q24 : ∀ D : s_D, t_VL gr a10 → t_CV gi gl a10 D → t_Cb D → w24.toInt = s_ct D ar1 ar2.toInt := q24
          refine ev_loc f_X11_doubt (nx := 55) rfl rfl rfl rfl ?_
          refine ev_c0 f_X11_doubt (nx := 58) (r := []) rfl rfl rfl rfl rfl rfl rfl (c_tellFraction hI (w24) (w18)) rfl hX rfl (fun gi25 gl25 gr25 hI hX hC25 => ?_)
          replace p10 := p10.ext hC25.2
          refine ev_loc f_X11_doubt (nx := 59) rfl rfl rfl rfl ?_
          refine ev_inV1 f_X11_doubt (nx := 62) (lo2 := [(0, .ref 0)]) rfl rfl rfl rfl f_X11_grant (hI.wf.s rfl) rfl rfl rfl rfl rfl ?_
          refine ev_loc f_X11_grant (nx := 1) rfl rfl rfl rfl ?_
          refine ev_ic f_X11_grant (nx := 2) (v := 0) rfl (by decide) rfl ?_
          refine ev_putIT f_X11_grant (nx := 5) rfl (hI.wf.s rfl) rfl rfl rfl (hI.put0 (hI.wf.s rfl) rfl rfl) (hX.upI rfl) (fun g26 e26 hI hX => ?_)
          refine ev_ic f_X11_grant (nx := 6) (v := 1) rfl (by decide) rfl ?_
          refine ev_retK1 f_X11_grant rfl rfl rfl ?_
          exact ev_ret f_X11_doubt rfl rfl rfl ⟨_, _, _, rfl, hI, hX, ⟨_, rfl, (Int.le_trans (by decide : (0:Int) ≤ 1) (by decide : (1:Int) ≤ (1:Int32).toInt)), (by decide : (1:Int32).toInt ≤ (1:Int)), (show ∀ (u : Nat) (D : s_D), gr 0 6 = .ref u → t_VL gr u → t_CV gi gl u D → t_Cb D → ((1 ≤ ar1.toInt ∧ 0 ≤ ar2.toInt ∧ ar2.toInt < D 0 ∧ ¬ s_ct D ar1 (-1) = 0) → (1 : Int) = 1) ∧ (¬ (1 ≤ ar1.toInt ∧ 0 ≤ ar2.toInt ∧ ar2.toInt < D 0 ∧ ¬ s_ct D ar1 (-1) = 0) → (1 : Int) = 0) from (by
                                                            intro u D hu hl hc hb
                                                            have ha : a10 = u := Value.ref.inj (e10.symm.trans hu)
                                                            subst ha
                                                            have hm := hc.1.1
                                                            have hlt := (t_lt1p e1 h2)
                                                            have hq := q18 D hl hc hb
                                                            exact ⟨fun _ => rfl, fun h => absurd (show _ from ⟨by omega, by omega, by omega, fun hh => absurd (hq.trans hh) (by have z0 : (0 : Int32).toInt = 0 := rfl; omega)⟩) h⟩))⟩⟩
noncomputable def wl_e_doubt : List (Nat × Nat) := [(69, 2), (69, 3), (69, 4), (69, 29), (78, 9999), (79, 9999), (80, 9999)]
noncomputable def Q_e_doubt (gi : Nat → Nat → Int32) (gl : Nat → Nat → Int64) (gr : Nat → Nat → Value) (ar1 : Int64) (ar2 : Int32) : Int32 → (Nat → Nat → Int32) → (Nat → Nat → Int64) → (Nat → Nat → Value) → Prop := fun (v : Int32) (gi2 : Nat → Nat → Int32) (gl2 : Nat → Nat → Int64) (gr2 : Nat → Nat → Value) => ∀ D : s_D, t_ME 0 gi D → t_Cb D → ((1 ≤ ar1.toInt ∧ 0 ≤ ar2.toInt ∧ ar2.toInt < D 0 ∧ ¬ s_ct D ar1 (-1) = 0) → v.toInt = 1) ∧ (¬ (1 ≤ ar1.toInt ∧ 0 ≤ ar2.toInt ∧ ar2.toInt < D 0 ∧ ¬ s_ct D ar1 (-1) = 0) → v.toInt = 0)
theorem c_e_doubt {X : x_Ext} {d : Nat} {sh : List (Nat ⊕ (Nat × Nat))} {gi : Nat → Nat → Int32} {gl : Nat → Nat → Int64} {gr : Nat → Nat → Value} (hI : t_I sh gi gr) (ar1 : Int64) (ar2 : Int32) : x_Me X (d + 5) n_X12_doubt [.ref 69, .long ar1, .int ar2] (sh, gi, gl, gr) (t_PI wl_e_doubt sh gi gl gr 0 1 (Q_e_doubt gi gl gr ar1 ar2)) := by
  have hX : t_X wl_e_doubt sh gi gl gr gi gl gr := t_X.rf
  refine me_i f_X12_doubt (hI.wf.s rfl) rfl rfl rfl ?_
  refine ev_loc f_X12_doubt (nx := 1) rfl rfl rfl rfl ?_
  refine ev_lc f_X12_doubt (nx := 2) (v := 1) rfl (by decide) rfl ?_
  refine ev_anyIE f_X12_doubt (nx := 3) rfl rfl rfl rfl (fun z1 e1 => ?_)
  refine ev_if f_X12_doubt (t1 := 14) (t2 := 6) rfl rfl rfl (fun h2 => ?_) (fun h2 => ?_)
  · have u3 : z1.toInt ≤ (-1) := t_ltu h2 (by decide : (0:Int32).toInt ≤ (0:Int)) rfl
    refine ev_loc f_X12_doubt (nx := 15) rfl rfl rfl rfl ?_
    refine ev_ic f_X12_doubt (nx := 16) (v := 1) rfl (by decide) rfl ?_
    refine ev_inV2 f_X12_doubt (nx := 19) (lo2 := [(0, .ref 69), (1, .int 1)]) rfl rfl rfl rfl f_X12_is (hI.wf.s rfl) rfl rfl rfl rfl rfl ?_
    refine ev_loc f_X12_is (nx := 1) rfl rfl rfl rfl ?_
    refine ev_loc f_X12_is (nx := 2) rfl rfl rfl rfl ?_
    refine ev_putIT f_X12_is (nx := 5) rfl (hI.wf.s rfl) rfl rfl rfl (hI.put0 (hI.wf.s rfl) rfl rfl) (hX.upI rfl) (fun g4 e4 hI hX => ?_)
    refine ev_loc f_X12_is (nx := 6) rfl rfl rfl rfl ?_
    refine ev_f f_X12_is (t1 := 9) (t2 := 13) rfl rfl rfl (by decide) ?_
    refine ev_ic f_X12_is (nx := 14) (v := 0) rfl (by decide) rfl ?_
    refine ev_retK1 f_X12_is rfl rfl rfl ?_
    exact ev_ret f_X12_doubt rfl rfl rfl ⟨_, _, _, rfl, hI, hX, ⟨_, rfl, (by decide : (0:Int) ≤ (0:Int32).toInt), (Int.le_trans (by decide : (0:Int32).toInt ≤ (0:Int)) (by decide : (0:Int) ≤ 1)), (show ∀ D : s_D, t_ME 0 gi D → t_Cb D → ((1 ≤ ar1.toInt ∧ 0 ≤ ar2.toInt ∧ ar2.toInt < D 0 ∧ ¬ s_ct D ar1 (-1) = 0) → (0 : Int) = 1) ∧ (¬ (1 ≤ ar1.toInt ∧ 0 ≤ ar2.toInt ∧ ar2.toInt < D 0 ∧ ¬ s_ct D ar1 (-1) = 0) → (0 : Int) = 0) from (by
                                                            intro D hm hb
                                                            have h0 : (gi 70 0).toInt = D 0 := hm.1.1.1
                                                            have hlt := (t_lt1n e1 h2)
                                                            exact ⟨fun h => absurd h (by omega), fun _ => rfl⟩))⟩⟩
  · have l5 : 0 ≤ z1.toInt := t_lel (t_nlt h2) (by decide : (0:Int) ≤ (0:Int32).toInt)
    refine ev_loc f_X12_doubt (nx := 7) rfl rfl rfl rfl ?_
    refine ev_loc f_X12_doubt (nx := 8) rfl rfl rfl rfl ?_
    refine ev_inV2 f_X12_doubt (nx := 11) (lo2 := [(0, .ref 69), (1, .int ar2)]) rfl rfl rfl rfl f_X12_isPort (hI.wf.s rfl) rfl rfl rfl rfl rfl ?_
    refine ev_loc f_X12_isPort (nx := 1) rfl rfl rfl rfl ?_
    refine ev_if f_X12_isPort (t1 := 18) (t2 := 4) rfl rfl rfl (fun h6 => ?_) (fun h6 => ?_)
    · have u7 : ar2.toInt ≤ (-1) := t_ltu h6 (by decide : (0:Int32).toInt ≤ (0:Int)) rfl
      refine ev_ic f_X12_isPort (nx := 19) (v := 0) rfl (by decide) rfl ?_
      refine ev_retK1 f_X12_isPort rfl rfl rfl ?_
      refine ev_t f_X12_doubt (t1 := 14) (t2 := 20) rfl rfl rfl (by decide) ?_
      refine ev_loc f_X12_doubt (nx := 15) rfl rfl rfl rfl ?_
      refine ev_ic f_X12_doubt (nx := 16) (v := 1) rfl (by decide) rfl ?_
      refine ev_inV2 f_X12_doubt (nx := 19) (lo2 := [(0, .ref 69), (1, .int 1)]) rfl rfl rfl rfl f_X12_is (hI.wf.s rfl) rfl rfl rfl rfl rfl ?_
      refine ev_loc f_X12_is (nx := 1) rfl rfl rfl rfl ?_
      refine ev_loc f_X12_is (nx := 2) rfl rfl rfl rfl ?_
      refine ev_putIT f_X12_is (nx := 5) rfl (hI.wf.s rfl) rfl rfl rfl (hI.put0 (hI.wf.s rfl) rfl rfl) (hX.upI rfl) (fun g8 e8 hI hX => ?_)
      refine ev_loc f_X12_is (nx := 6) rfl rfl rfl rfl ?_
      refine ev_f f_X12_is (t1 := 9) (t2 := 13) rfl rfl rfl (by decide) ?_
      refine ev_ic f_X12_is (nx := 14) (v := 0) rfl (by decide) rfl ?_
      refine ev_retK1 f_X12_is rfl rfl rfl ?_
      exact ev_ret f_X12_doubt rfl rfl rfl ⟨_, _, _, rfl, hI, hX, ⟨_, rfl, (by decide : (0:Int) ≤ (0:Int32).toInt), (Int.le_trans (by decide : (0:Int32).toInt ≤ (0:Int)) (by decide : (0:Int) ≤ 1)), (show ∀ D : s_D, t_ME 0 gi D → t_Cb D → ((1 ≤ ar1.toInt ∧ 0 ≤ ar2.toInt ∧ ar2.toInt < D 0 ∧ ¬ s_ct D ar1 (-1) = 0) → (0 : Int) = 1) ∧ (¬ (1 ≤ ar1.toInt ∧ 0 ≤ ar2.toInt ∧ ar2.toInt < D 0 ∧ ¬ s_ct D ar1 (-1) = 0) → (0 : Int) = 0) from (by
                                                            intro D hm hb
                                                            have h0 : (gi 70 0).toInt = D 0 := hm.1.1.1
                                                            have hlt := (t_lt1p e1 h2)
                                                            exact ⟨fun h => absurd h (by omega), fun _ => rfl⟩))⟩⟩
    · have l9 : 0 ≤ ar2.toInt := t_lel (t_nlt h6) (by decide : (0:Int) ≤ (0:Int32).toInt)
      refine ev_loc f_X12_isPort (nx := 5) rfl rfl rfl rfl ?_
      refine ev_loc f_X12_isPort (nx := 6) rfl rfl rfl rfl ?_
      refine ev_getR f_X12_isPort (nx := 9) rfl (hI.wf.s rfl) rfl rfl (hI.wf.r rfl) rfl rfl ?_
      refine ev_ic f_X12_isPort (nx := 10) (v := 0) rfl (by decide) rfl ?_
      obtain ⟨l10, u10⟩ := hI.ab (by decide +kernel : t_abr 70 0 0 0 6 = true) (Nat.le_refl _) (Nat.le_refl _)
      refine ev_ialdv f_X12_isPort (nx := 11) (w := (gi 70 0)) rfl (hI.wf.s rfl) (by decide) (rfl : (0 : Int32).toNatClampNeg = 0) (by decide) rfl rfl ?_
      refine ev_if f_X12_isPort (t1 := 18) (t2 := 14) rfl rfl rfl (fun h11 => ?_) (fun h11 => ?_)
      · have r12 : (gi 70 0).toInt ≤ ar2.toInt := Int32.le_iff_toInt_le.mp h11
        refine ev_ic f_X12_isPort (nx := 19) (v := 0) rfl (by decide) rfl ?_
        refine ev_retK1 f_X12_isPort rfl rfl rfl ?_
        refine ev_t f_X12_doubt (t1 := 14) (t2 := 20) rfl rfl rfl (by decide) ?_
        refine ev_loc f_X12_doubt (nx := 15) rfl rfl rfl rfl ?_
        refine ev_ic f_X12_doubt (nx := 16) (v := 1) rfl (by decide) rfl ?_
        refine ev_inV2 f_X12_doubt (nx := 19) (lo2 := [(0, .ref 69), (1, .int 1)]) rfl rfl rfl rfl f_X12_is (hI.wf.s rfl) rfl rfl rfl rfl rfl ?_
        refine ev_loc f_X12_is (nx := 1) rfl rfl rfl rfl ?_
        refine ev_loc f_X12_is (nx := 2) rfl rfl rfl rfl ?_
        refine ev_putIT f_X12_is (nx := 5) rfl (hI.wf.s rfl) rfl rfl rfl (hI.put0 (hI.wf.s rfl) rfl rfl) (hX.upI rfl) (fun g13 e13 hI hX => ?_)
        refine ev_loc f_X12_is (nx := 6) rfl rfl rfl rfl ?_
        refine ev_f f_X12_is (t1 := 9) (t2 := 13) rfl rfl rfl (by decide) ?_
        refine ev_ic f_X12_is (nx := 14) (v := 0) rfl (by decide) rfl ?_
        refine ev_retK1 f_X12_is rfl rfl rfl ?_
        exact ev_ret f_X12_doubt rfl rfl rfl ⟨_, _, _, rfl, hI, hX, ⟨_, rfl, (by decide : (0:Int) ≤ (0:Int32).toInt), (Int.le_trans (by decide : (0:Int32).toInt ≤ (0:Int)) (by decide : (0:Int) ≤ 1)), (show ∀ D : s_D, t_ME 0 gi D → t_Cb D → ((1 ≤ ar1.toInt ∧ 0 ≤ ar2.toInt ∧ ar2.toInt < D 0 ∧ ¬ s_ct D ar1 (-1) = 0) → (0 : Int) = 1) ∧ (¬ (1 ≤ ar1.toInt ∧ 0 ≤ ar2.toInt ∧ ar2.toInt < D 0 ∧ ¬ s_ct D ar1 (-1) = 0) → (0 : Int) = 0) from (by
                                                            intro D hm hb
                                                            have h0 : (gi 70 0).toInt = D 0 := hm.1.1.1
                                                            have hlt := (t_lt1p e1 h2)
                                                            exact ⟨fun h => absurd h (by omega), fun _ => rfl⟩))⟩⟩
      · have r14 : ar2.toInt < (gi 70 0).toInt := Int32.lt_iff_toInt_lt.mp (t_nle h11)
        have u15 : ar2.toInt ≤ 5 := t_ltu (t_nle h11) u10 rfl
        have l16 : 1 ≤ (gi 70 0).toInt := t_ltl (t_nle h11) l9 rfl
        refine ev_ic f_X12_isPort (nx := 15) (v := 1) rfl (by decide) rfl ?_
        refine ev_jmp f_X12_isPort (nx := 19) rfl rfl rfl ?_
        refine ev_retK1 f_X12_isPort rfl rfl rfl ?_
        refine ev_f f_X12_doubt (t1 := 14) (t2 := 20) rfl rfl rfl (by decide) ?_
        refine ev_loc f_X12_doubt (nx := 21) rfl rfl rfl rfl ?_
        refine ev_loc f_X12_doubt (nx := 22) rfl rfl rfl rfl ?_
        refine ev_qN f_X12_doubt (nx := 25) (r := []) rfl rfl rfl rfl rfl rfl rfl (c_n_findsReadings hI (ar1)) rfl hX rfl (fun gi17 gl17 gr17 hI hX hC17 q17 => ?_)
        have q17 : (gi17 69 29).toInt ≤ 474 ∧ (∀ j, gi17 70 j = gi 70 j) ∧ (∀ D : s_D, t_ME 0 gi D → t_Cb D → (gi17 69 29).toInt = s_ct D ar1 (-1)) := q17
        refine ev_loc f_X12_doubt (nx := 26) rfl rfl rfl rfl ?_
        refine ev_getI f_X12_doubt (nx := 29) rfl (hI.wf.s rfl) rfl rfl rfl ?_
        obtain ⟨l18, u18⟩ := hI.b (hI.wf.s (k := 69) rfl) (t_bdK rfl : t_bd 11 29 = some (0, 500))
        refine ev_if f_X12_doubt (t1 := 32) (t2 := 39) rfl rfl rfl (fun h19 => ?_) (fun h19 => ?_)
        · have u20 : (gi17 69 29).toInt ≤ 0 := t_equ h19 (by decide : (0:Int32).toInt ≤ (0:Int))
          refine ev_loc f_X12_doubt (nx := 33) rfl rfl rfl rfl ?_
          refine ev_bp f_X12_doubt (nx := 35) (v := 6) rfl (by decide) rfl ?_
          refine ev_inV2 f_X12_doubt (nx := 38) (lo2 := [(0, .ref 69), (1, .int 6)]) rfl rfl rfl rfl f_X12_is (hI.wf.s rfl) rfl rfl rfl rfl rfl ?_
          refine ev_loc f_X12_is (nx := 1) rfl rfl rfl rfl ?_
          refine ev_loc f_X12_is (nx := 2) rfl rfl rfl rfl ?_
          refine ev_putIT f_X12_is (nx := 5) rfl (hI.wf.s rfl) rfl rfl rfl (hI.put0 (hI.wf.s rfl) rfl rfl) (hX.upI rfl) (fun g21 e21 hI hX => ?_)
          refine ev_loc f_X12_is (nx := 6) rfl rfl rfl rfl ?_
          refine ev_f f_X12_is (t1 := 9) (t2 := 13) rfl rfl rfl (by decide) ?_
          refine ev_ic f_X12_is (nx := 14) (v := 0) rfl (by decide) rfl ?_
          refine ev_retK1 f_X12_is rfl rfl rfl ?_
          exact ev_ret f_X12_doubt rfl rfl rfl ⟨_, _, _, rfl, hI, hX, ⟨_, rfl, (by decide : (0:Int) ≤ (0:Int32).toInt), (Int.le_trans (by decide : (0:Int32).toInt ≤ (0:Int)) (by decide : (0:Int) ≤ 1)), (show ∀ D : s_D, t_ME 0 gi D → t_Cb D → ((1 ≤ ar1.toInt ∧ 0 ≤ ar2.toInt ∧ ar2.toInt < D 0 ∧ ¬ s_ct D ar1 (-1) = 0) → (0 : Int) = 1) ∧ (¬ (1 ≤ ar1.toInt ∧ 0 ≤ ar2.toInt ∧ ar2.toInt < D 0 ∧ ¬ s_ct D ar1 (-1) = 0) → (0 : Int) = 0) from (by
                                                            intro D hm hb
                                                            have h0 : (gi 70 0).toInt = D 0 := hm.1.1.1
                                                            have hlt := (t_lt1p e1 h2)
                                                            have hq := q17.2.2 D hm hb
                                                            have ff22 : (g21 69 29).toInt = (gi17 69 29).toInt := congrArg Int32.toInt ((by rw [e21]; exact x_up2_off (Or.inr (by decide)) : g21 69 29 = gi17 69 29).trans rfl)
                                                            exact ⟨fun h => absurd (hq.symm.trans (by have z0 : (0 : Int32).toInt = 0 := rfl; omega)) h.2.2.2, fun _ => rfl⟩))⟩⟩
        · have r23 : (gi17 69 29).toInt ≠ 0 := fun e => h19 (Int32.toInt_inj.mp (e.trans (by decide : (0:Int) = (0 : Int32).toInt)))
          have l24 : 1 ≤ (gi17 69 29).toInt := t_nel h19 l18 rfl rfl
          refine ev_ic f_X12_doubt (nx := 40) (v := 0) rfl (by decide) rfl ?_
          refine ev_loc f_X12_doubt (nx := 42) (lo' := [(4, .int 0), (0, .ref 69), (1, .long ar1), (3, .int ar2)]) rfl rfl rfl rfl ?_
          refine ev_ic f_X12_doubt (nx := 43) (v := 0) rfl (by decide) rfl ?_
          refine ev_loc f_X12_doubt (nx := 45) (lo' := [(5, .int 0), (4, .int 0), (0, .ref 69), (1, .long ar1), (3, .int ar2)]) rfl rfl rfl rfl ?_
          have L25 : ∀ (m25 : Nat) (y25_5 : Int32) (y25_4 : Int32), 0 ≤ y25_5.toInt → y25_5.toInt ≤ 500 → 0 ≤ y25_4.toInt → y25_4.toInt ≤ 500 → 0 ≤ y25_4.toInt → y25_4.toInt ≤ y25_5.toInt → (∀ D : s_D, t_ME 0 gi D → t_Cb D → (1 ≤ ar1.toInt ∧ 0 ≤ ar2.toInt ∧ ar2.toInt < D 0 ∧ ¬ s_ct D ar1 (-1) = 0)) → (500 - y25_5.toInt).toNat = m25 → x_Ev X (d + 5) n_X12_doubt 45 [(5, .int y25_5), (4, .int y25_4), (0, .ref 69), (1, .long ar1), (3, .int ar2)] [] (sh, gi17, gl17, gr17) (t_PI wl_e_doubt sh gi gl gr 0 1 (Q_e_doubt gi gl gr ar1 ar2)) := by
            intro m25
            induction m25 using Nat.strongRecOn with
            | _ m25 ih25 =>
            intro y25_5 y25_4 l25_5 u25_5 l25_4 u25_4 j25_0 j25_1 j25_2 hm25
            refine ev_loc f_X12_doubt (nx := 47) rfl rfl rfl rfl ?_
            refine ev_loc f_X12_doubt (nx := 48) rfl rfl rfl rfl ?_
            refine ev_gvI f_X12_doubt (nx := 51) (w := (gi17 69 29)) rfl (hI.wf.s rfl) rfl rfl rfl rfl ?_
            refine ev_if f_X12_doubt (t1 := 92) (t2 := 54) rfl rfl rfl (fun h26 => ?_) (fun h26 => ?_)
            · have r27 : (gi17 69 29).toInt ≤ y25_5.toInt := Int32.le_iff_toInt_le.mp h26
              have l28 : 1 ≤ y25_5.toInt := t_lel h26 l24
              refine ev_loc f_X12_doubt (nx := 93) rfl rfl rfl rfl ?_
              refine ev_loc f_X12_doubt (nx := 95) rfl rfl rfl rfl ?_
              refine ev_anyLE f_X12_doubt (nx := 96) rfl rfl rfl rfl (fun z29 e29 => ?_)
              have i29 : z29.toInt = y25_4.toInt := by rw [e29]; exact Int32.toInt_toInt64 _
              refine ev_loc f_X12_doubt (nx := 97) rfl rfl rfl rfl ?_
              refine ev_gvI f_X12_doubt (nx := 100) (w := (gi17 69 29)) rfl (hI.wf.s rfl) rfl rfl rfl rfl ?_
              refine ev_anyLE f_X12_doubt (nx := 101) rfl rfl rfl rfl (fun z30 e30 => ?_)
              have i30 : z30.toInt = (gi17 69 29).toInt := by rw [e30]; exact Int32.toInt_toInt64 _
              refine ev_cI f_X12_doubt (nx := 104) (r := []) rfl rfl rfl rfl rfl rfl rfl (c_m_tellsBy hI (z29) (z30) (by omega) (by omega)) rfl hX rfl (fun w31 gi31 gl31 gr31 l31 u31 hI hX hC31 => ?_)
              exact ev_retZ f_X12_doubt rfl (Int.le_trans (by decide : (0:Int) ≤ 1) l31) u31 ⟨_, _, _, rfl, hI, hX, ⟨_, rfl, (Int.le_trans (by decide : (0:Int) ≤ 1) l31), u31, (show ∀ D : s_D, t_ME 0 gi D → t_Cb D → ((1 ≤ ar1.toInt ∧ 0 ≤ ar2.toInt ∧ ar2.toInt < D 0 ∧ ¬ s_ct D ar1 (-1) = 0) → w31.toInt = 1) ∧ (¬ (1 ≤ ar1.toInt ∧ 0 ≤ ar2.toInt ∧ ar2.toInt < D 0 ∧ ¬ s_ct D ar1 (-1) = 0) → w31.toInt = 0) from (by
                                                            intro D hm hb
                                                            have h0 : (gi 70 0).toInt = D 0 := hm.1.1.1
                                                            exact ⟨fun _ => (by omega), fun h => absurd (j25_2 D hm hb) h⟩))⟩⟩
            · have r32 : y25_5.toInt < (gi17 69 29).toInt := Int32.lt_iff_toInt_lt.mp (t_nle h26)
              have u33 : y25_5.toInt ≤ 499 := t_ltu (t_nle h26) u18 rfl
              refine ev_loc f_X12_doubt (nx := 56) rfl rfl rfl rfl ?_
              refine ev_loc f_X12_doubt (nx := 57) rfl rfl rfl rfl ?_
              refine ev_getR f_X12_doubt (nx := 60) rfl (hI.wf.s rfl) rfl rfl (hI.wf.r rfl) rfl rfl ?_
              refine ev_loc f_X12_doubt (nx := 62) rfl rfl rfl rfl ?_
              refine ev_ialdT f_X12_doubt (nx := 63) rfl (hI.wf.s rfl) l25_5 (by decide) u33 (by decide) rfl (fun w34 e34 => ?_)
              refine ev_loc f_X12_doubt (nx := 64) rfl rfl rfl rfl ?_
              refine ev_if f_X12_doubt (t1 := 78) (t2 := 67) rfl rfl rfl (fun h35 => ?_) (fun h35 => ?_)
              · have r36 : w34.toInt = ar2.toInt := t_eqi h35
                have u37 : w34.toInt ≤ 5 := t_equ h35 u15
                have l38 : 0 ≤ w34.toInt := t_eql h35 l9
                refine ev_ic f_X12_doubt (nx := 79) (v := 1) rfl (by decide) rfl ?_
                refine ev_jmp f_X12_doubt (nx := 83) rfl rfl rfl ?_
                refine ev_addC f_X12_doubt (nx := 84) (c := 1) (l := 1) (u := 501) rfl (by decide) l25_4 u25_4 rfl rfl (by decide) (by decide) rfl (fun z39 e39 l39 u39 => ?_)
                refine ev_loc f_X12_doubt (nx := 86) (lo' := [(4, .int z39), (5, .int y25_5), (0, .ref 69), (1, .long ar1), (3, .int ar2)]) rfl rfl rfl rfl ?_
                refine ev_incR f_X12_doubt (nx := 89) (c := 1) (l := 1) (u := 500) rfl rfl (by decide) (by decide) l25_5 u33 rfl rfl (by decide) (by decide) rfl (fun z40 e40 l40 u40 => ?_)
                refine ev_jmp f_X12_doubt (nx := 45) rfl rfl rfl ?_
                refine ev_sub (lo := [(5, .int z40), (4, .int z39), (0, .ref 69), (1, .long ar1), (3, .int ar2)]) rfl (t_sc rfl (t_sc rfl (t_sc rfl (t_sc rfl (t_sc rfl t_sn))))) ?_
                exact ih25 _ (by omega) (z40) (z39) (Int.le_trans (by decide : (0:Int) ≤ 1) l40) u40 (Int.le_trans (by decide : (0:Int) ≤ 1) l39) (by omega : z39.toInt ≤ (500:Int)) (by omega) (by omega) j25_2 rfl
              · have r41 : w34.toInt ≠ ar2.toInt := t_nei h35
                refine ev_loc f_X12_doubt (nx := 68) rfl rfl rfl rfl ?_
                refine ev_getR f_X12_doubt (nx := 71) rfl (hI.wf.s rfl) rfl rfl (hI.wf.r rfl) rfl rfl ?_
                refine ev_loc f_X12_doubt (nx := 73) rfl rfl rfl rfl ?_
                refine ev_ialdT f_X12_doubt (nx := 74) rfl (hI.wf.s rfl) l25_5 (by decide) u33 (by decide) rfl (fun w42 e42 => ?_)
                refine ev_loc f_X12_doubt (nx := 75) rfl rfl rfl rfl ?_
                refine ev_if f_X12_doubt (t1 := 78) (t2 := 82) rfl rfl rfl (fun h43 => ?_) (fun h43 => ?_)
                · have r44 : w42.toInt = ar2.toInt := t_eqi h43
                  have u45 : w42.toInt ≤ 5 := t_equ h43 u15
                  have l46 : 0 ≤ w42.toInt := t_eql h43 l9
                  refine ev_ic f_X12_doubt (nx := 79) (v := 1) rfl (by decide) rfl ?_
                  refine ev_jmp f_X12_doubt (nx := 83) rfl rfl rfl ?_
                  refine ev_addC f_X12_doubt (nx := 84) (c := 1) (l := 1) (u := 501) rfl (by decide) l25_4 u25_4 rfl rfl (by decide) (by decide) rfl (fun z47 e47 l47 u47 => ?_)
                  refine ev_loc f_X12_doubt (nx := 86) (lo' := [(4, .int z47), (5, .int y25_5), (0, .ref 69), (1, .long ar1), (3, .int ar2)]) rfl rfl rfl rfl ?_
                  refine ev_incR f_X12_doubt (nx := 89) (c := 1) (l := 1) (u := 500) rfl rfl (by decide) (by decide) l25_5 u33 rfl rfl (by decide) (by decide) rfl (fun z48 e48 l48 u48 => ?_)
                  refine ev_jmp f_X12_doubt (nx := 45) rfl rfl rfl ?_
                  refine ev_sub (lo := [(5, .int z48), (4, .int z47), (0, .ref 69), (1, .long ar1), (3, .int ar2)]) rfl (t_sc rfl (t_sc rfl (t_sc rfl (t_sc rfl (t_sc rfl t_sn))))) ?_
                  exact ih25 _ (by omega) (z48) (z47) (Int.le_trans (by decide : (0:Int) ≤ 1) l48) u48 (Int.le_trans (by decide : (0:Int) ≤ 1) l47) (by omega : z47.toInt ≤ (500:Int)) (by omega) (by omega) j25_2 rfl
                · have r49 : w42.toInt ≠ ar2.toInt := t_nei h43
                  refine ev_ic f_X12_doubt (nx := 83) (v := 0) rfl (by decide) rfl ?_
                  refine ev_addC f_X12_doubt (nx := 84) (c := 0) (l := 0) (u := 500) rfl (by decide) l25_4 u25_4 rfl rfl (by decide) (by decide) rfl (fun z50 e50 l50 u50 => ?_)
                  refine ev_loc f_X12_doubt (nx := 86) (lo' := [(4, .int z50), (5, .int y25_5), (0, .ref 69), (1, .long ar1), (3, .int ar2)]) rfl rfl rfl rfl ?_
                  refine ev_incR f_X12_doubt (nx := 89) (c := 1) (l := 1) (u := 500) rfl rfl (by decide) (by decide) l25_5 u33 rfl rfl (by decide) (by decide) rfl (fun z51 e51 l51 u51 => ?_)
                  refine ev_jmp f_X12_doubt (nx := 45) rfl rfl rfl ?_
                  refine ev_sub (lo := [(5, .int z51), (4, .int z50), (0, .ref 69), (1, .long ar1), (3, .int ar2)]) rfl (t_sc rfl (t_sc rfl (t_sc rfl (t_sc rfl (t_sc rfl t_sn))))) ?_
                  exact ih25 _ (by omega) (z51) (z50) (Int.le_trans (by decide : (0:Int) ≤ 1) l51) u51 l50 u50 (by omega) (by omega) j25_2 rfl
          refine ev_sub (lo := [(5, .int 0), (4, .int 0), (0, .ref 69), (1, .long ar1), (3, .int ar2)]) rfl (t_sc rfl (t_sc rfl (t_sc rfl (t_sc rfl (t_sc rfl t_sn))))) ?_
          exact L25 _ (0) (0) (by decide : (0:Int) ≤ (0:Int32).toInt) (Int.le_trans (by decide : (0:Int32).toInt ≤ (0:Int)) (by decide : (0:Int) ≤ 500)) (by decide : (0:Int) ≤ (0:Int32).toInt) (Int.le_trans (by decide : (0:Int32).toInt ≤ (0:Int)) (by decide : (0:Int) ≤ 500)) (by have kf52 : (0 : Int32).toInt = 0 := (by decide); omega) (by have kf53 : (0 : Int32).toInt = 0 := (by decide); omega) (by
                                                            intro D hm hb
                                                            have h0 : (gi 70 0).toInt = D 0 := hm.1.1.1
                                                            have hlt := (t_lt1p e1 h2)
                                                            have hq := q17.2.2 D hm hb
                                                            exact ⟨by omega, by omega, by omega, fun hh => absurd (hq.trans hh) (by have z0 : (0 : Int32).toInt = 0 := rfl; omega)⟩) rfl
/-! ===== clearBeats, doubt: the answers are alike ===== -/
section CLBL
variable {sh : List (Nat ⊕ (Nat × Nat))} {gi g1 g2 : Nat → Nat → Int32} {gl l1 l2 : Nat → Nat → Int64} {gr r1 r2 : Nat → Nat → Value} {w1 : List (Nat × Nat)} {A A2 : Int32} {Y : Int64} {x1 x2 : Int32}
theorem t_L_clearBeats (hD : t_DR sh.length gi gl gr) (f1 : t_F w1 gi gl gr g1 l1 r1) (h70 : t_nc w1 70 = true) (q1 : Q_d_clearBeats gi gl gr A A2 x1 g1 l1 r1) (q2 : Q_e_clearBeats g1 l1 r1 A A2 x2 g2 l2 r2) : x1 = x2 := by
  obtain ⟨u, D, hu, hl, hc, hb, hm, -⟩ := t_D_0 hD f1 h70
  have k1 := q1 u D hu hl hc hb
  have k2 := q2 D hm hb
  apply Int32.toInt_inj.mp
  by_cases hin : 0 ≤ A.toInt ∧ A.toInt < D 0 ∧ 0 ≤ A2.toInt ∧ A2.toInt < D 0
  · rw [k1.1 hin, k2.1 hin]
  · rw [k1.2 hin, k2.2 hin]
theorem t_L_doubt (hD : t_DR sh.length gi gl gr) (f1 : t_F w1 gi gl gr g1 l1 r1) (h70 : t_nc w1 70 = true) (q1 : Q_d_doubt gi gl gr Y A x1 g1 l1 r1) (q2 : Q_e_doubt g1 l1 r1 Y A x2 g2 l2 r2) : x1 = x2 := by
  obtain ⟨u, D, hu, hl, hc, hb, hm, -⟩ := t_D_0 hD f1 h70
  have k1 := q1 u D hu hl hc hb
  have k2 := q2 D hm hb
  apply Int32.toInt_inj.mp
  by_cases hin : 1 ≤ Y.toInt ∧ 0 ≤ A.toInt ∧ A.toInt < D 0 ∧ ¬ s_ct D Y (-1) = 0
  · rw [k1.1 hin, k2.1 hin]
  · rw [k1.2 hin, k2.2 hin]
end CLBL
/-! ===== the order of those that come: by their minutes, at the same minute by number ===== -/
/-- where a newcomer goes among n that stand in order -/
noncomputable def s_pk (K : Nat → Int) (a : Int) : Nat → Nat
  | 0 => 0
  | n + 1 => if a < K n then s_pk K a n else n + 1
noncomputable def s_is (f : Nat → Int32) (v : Int32) (p j : Nat) : Int32 := if j < p then f j else if j = p then v else f (j - 1)
noncomputable def s_sh (f : Nat → Int32) (x j : Nat) : Int32 := if j ≤ x then f j else f (j - 1)
/-- while one goes in: all from x on stand a place further -/
noncomputable def s_J (f g : Nat → Int32) (K : Nat → Int) (n : Nat) (a : Int) (x : Nat) : Prop := x ≤ n ∧ s_pk K a n = s_pk K a x ∧ ∀ j, j ≤ n → g j = s_sh f x j
noncomputable def s_ins (F : Nat → Nat) (i p j : Nat) : Nat := if j < p then F j else if j = p then i else F (j - 1)
/-- the order of the first i -/
noncomputable def s_or (A : Nat → Int) : Nat → Nat → Nat
  | 0 => fun _ => 0
  | i + 1 => s_ins (s_or A i) i (s_pk (fun j => A (s_or A i j)) (A i) i)
noncomputable def s_RO (A : Nat → Int) (f : Nat → Int32) (i : Nat) : Prop := ∀ j, j < i → (f j).toInt = ((s_or A i j : Nat) : Int)
noncomputable def s_RM (A : Nat → Int) (f : Nat → Int32) (i : Nat) : Prop := ∀ j, j < i → (f j).toInt = A (s_or A i j)
/-- and what else is told of each -/
noncomputable def s_RX (A X : Nat → Int) (f : Nat → Int32) (i : Nat) : Prop := ∀ j, j < i → (f j).toInt = X (s_or A i j)
noncomputable def s_LR (k : Nat) : Prop := (3 ≤ k ∧ k < 19) ∨ 102 ≤ k
section ORD
variable {f g g' : Nat → Int32} {K K' A : Nat → Int} {n x i : Nat} {a : Int} {v w : Int32}
theorem s_pk_cg : ∀ n : Nat, (∀ j, j < n → K j = K' j) → s_pk K a n = s_pk K' a n
  | 0, _ => rfl
  | n + 1, h => by
    show (if a < K n then s_pk K a n else n + 1) = (if a < K' n then s_pk K' a n else n + 1)
    rw [h n (Nat.lt_succ_self n), s_pk_cg n (fun j hj => h j (by omega))]
theorem s_pk_le (K : Nat → Int) (a : Int) : ∀ n : Nat, s_pk K a n ≤ n
  | 0 => Nat.le_refl _
  | n + 1 => by
    show (if a < K n then s_pk K a n else n + 1) ≤ n + 1
    have h := s_pk_le K a n
    split <;> omega
theorem s_J_b (e : ∀ j, j ≤ n → g j = f j) : s_J f g K n a n := ⟨Nat.le_refl _, rfl, fun j hj => by rw [e j hj]; unfold s_sh; rw [if_pos hj]⟩
theorem s_J_at (h : s_J f g K n a x) (hx : 0 < x) : g (x - 1) = f (x - 1) := by
  rw [h.2.2 (x - 1) (by have := h.1; omega)]; unfold s_sh; rw [if_pos (by omega)]
theorem s_J_s (h : s_J f g K n a x) (hx : 0 < x) (hg : a < K (x - 1)) (e : ∀ j, g' j = if j = x then w else g j) (hw : w = g (x - 1)) : s_J f g' K n a (x - 1) := by
  have h4 := s_J_at h hx
  obtain ⟨h1, h2, h3⟩ := h
  refine ⟨by omega, ?_, fun j hj => ?_⟩
  · rw [h2]
    obtain ⟨y, rfl⟩ : ∃ y, x = y + 1 := ⟨x - 1, by omega⟩
    show (if a < K y then s_pk K a y else y + 1) = s_pk K a y
    exact if_pos hg
  · rw [e j]
    by_cases hjx : j = x
    · rw [if_pos hjx, hw, h4, hjx]; unfold s_sh; rw [if_neg (by omega)]
    · rw [if_neg hjx, h3 j hj]; unfold s_sh
      by_cases hj2 : j ≤ x - 1
      · rw [if_pos hj2, if_pos (by omega)]
      · rw [if_neg hj2, if_neg (by omega)]
theorem s_pk_at (hs : x = 0 ∨ K (x - 1) ≤ a) : s_pk K a x = x := by
  cases x with
  | zero => rfl
  | succ y =>
    show (if a < K y then s_pk K a y else y + 1) = y + 1
    refine if_neg ?_
    rcases hs with h | h
    · omega
    · have h : K y ≤ a := h
      omega
theorem s_J_e (h : s_J f g K n a x) (hs : x = 0 ∨ K (x - 1) ≤ a) (e : ∀ j, g' j = if j = x then v else g j) : ∀ j, j ≤ n → g' j = s_is f v (s_pk K a n) j := by
  obtain ⟨h1, h2, h3⟩ := h
  intro j hj
  rw [e j, h2, s_pk_at hs]
  unfold s_is
  by_cases hjx : j = x
  · rw [if_pos hjx, if_neg (by omega), if_pos hjx]
  · rw [if_neg hjx, h3 j hj]; unfold s_sh
    by_cases hj2 : j < x
    · rw [if_pos (by omega), if_pos hj2]
    · rw [if_neg (by omega), if_neg hj2, if_neg hjx]
theorem s_or_lt (A : Nat → Int) : ∀ i j : Nat, j < i → s_or A i j < i
  | 0, _, h => absurd h (by omega)
  | i + 1, j, h => by
    show s_ins (s_or A i) i (s_pk (fun j => A (s_or A i j)) (A i) i) j < i + 1
    have hp := s_pk_le (fun j => A (s_or A i j)) (A i) i
    unfold s_ins
    split
    · have := s_or_lt A i j (by omega); omega
    · split
      · omega
      · have := s_or_lt A i (j - 1) (by omega); omega
theorem s_RO_s (h : s_RO A f i) (hv : v.toInt = (i : Int)) (hK : ∀ j, j < i → K j = A (s_or A i j)) (ha : a = A i) (e : ∀ j, j ≤ i → g j = s_is f v (s_pk K a i) j) : s_RO A g (i + 1) := by
  intro j hj
  rw [e j (by omega), s_pk_cg (K' := fun j => A (s_or A i j)) i hK, ha]
  show _ = ((s_ins (s_or A i) i (s_pk (fun j => A (s_or A i j)) (A i) i) j : Nat) : Int)
  have hp := s_pk_le (fun j => A (s_or A i j)) (A i) i
  unfold s_is s_ins
  split
  · exact h j (by omega)
  · split
    · exact hv
    · exact h (j - 1) (by omega)
theorem s_RM_s (h : s_RM A f i) (hv : v.toInt = A i) (hK : ∀ j, j < i → K j = A (s_or A i j)) (ha : a = A i) (e : ∀ j, j ≤ i → g j = s_is f v (s_pk K a i) j) : s_RM A g (i + 1) := by
  intro j hj
  rw [e j (by omega), s_pk_cg (K' := fun j => A (s_or A i j)) i hK, ha]
  show _ = A (s_ins (s_or A i) i (s_pk (fun j => A (s_or A i j)) (A i) i) j)
  have hp := s_pk_le (fun j => A (s_or A i j)) (A i) i
  unfold s_is s_ins
  split
  · exact h j (by omega)
  · split
    · exact hv
    · exact h (j - 1) (by omega)
theorem s_RX_s {X : Nat → Int} (h : s_RX A X f i) (hv : v.toInt = X i) (hK : ∀ j, j < i → K j = A (s_or A i j)) (ha : a = A i) (e : ∀ j, j ≤ i → g j = s_is f v (s_pk K a i) j) : s_RX A X g (i + 1) := by
  intro j hj
  rw [e j (by omega), s_pk_cg (K' := fun j => A (s_or A i j)) i hK, ha]
  show _ = X (s_ins (s_or A i) i (s_pk (fun j => A (s_or A i j)) (A i) i) j)
  have hp := s_pk_le (fun j => A (s_or A i j)) (A i) i
  unfold s_is s_ins
  split
  · exact h j (by omega)
  · split
    · exact hv
    · exact h (j - 1) (by omega)
theorem s_and1 {w : Int32} (h : 0 ≤ w.toInt ∧ w.toInt ≤ 1) : w &&& 1 = w := by
  rcases (show w.toInt = 0 ∨ w.toInt = 1 by omega) with e | e
  · rw [show w = 0 from Int32.toInt_inj.mp e]; rfl
  · rw [show w = 1 from Int32.toInt_inj.mp e]; rfl
theorem s_st1 {g g' : Nat → Nat → Int32} {c j : Nat} {v : Int32} (e : g' c = x_up2 g c j v c) : ∀ k, g' c k = if k = j then v else g c k := by
  intro k
  rw [e]
  by_cases h : k = j
  · rw [if_pos h, h, x_up2_at]
  · rw [if_neg h, x_up2_off (Or.inr h)]
end ORD
theorem t_shr0 (y : Int32) : (0 : Int32) >>> y = 0 := by
  apply Int32.toBitVec_inj.mp
  simp [Int32.toBitVec_shiftRight]
/-- the minutes of the SHIPS, and of the CARTS -/
noncomputable def s_A (D : s_D) (j : Nat) : Int := D (53 + 5 * j)
noncomputable def s_B (D : s_D) (j : Nat) : Int := D (82 + 3 * j)
theorem s_cm {y z : Int32} (h : 0 ≤ z.toInt) (e : z.toInt = y.toInt - 1) : z.toNatClampNeg = y.toNatClampNeg - 1 := by
  have c1 := t_clamp (i := z) h
  have c2 := t_clamp (i := y) (by omega)
  omega
theorem s_cm2 {y z : Int32} (h : 0 ≤ z.toInt) (e : z.toInt = y.toInt + -1) : z.toNatClampNeg = y.toNatClampNeg - 1 := s_cm h (by omega)
theorem s_c0 {y : Int32} (h : 1 ≤ y.toInt) : 0 < y.toNatClampNeg := by
  have c2 := t_clamp (i := y) (by omega)
  omega
theorem s_c00 {y : Int32} (h : y.toInt ≤ 0) (h0 : 0 ≤ y.toInt) : y.toNatClampNeg = 0 := by
  have c2 := t_clamp (i := y) h0
  omega
theorem s_c5 {n x : Int32} {k : Nat} (h : n.toInt = (k : Int)) : n.toNatClampNeg = k := by
  have c2 := t_clamp (i := n) (by omega)
  omega
theorem s_cp {y z : Int32} (h : 0 ≤ y.toInt) (e : z.toInt = y.toInt + 1) : z.toNatClampNeg = y.toNatClampNeg + 1 := by
  have c1 := t_clamp (i := y) h
  have c2 := t_clamp (i := z) (by omega)
  omega
section ZST
variable {X : x_Ext} {d mi pc nx a b q len ml : Nat} {z : Int} {ins : Instr} {lo lo' : x_Lo} {st st' r : List Value} {G : x_G} {P : Option Value → x_G → Prop} {T : List (Nat × x_Row)} {rt : Option FieldType}
variable {sh : List (Nat ⊕ (Nat × Nat))} {gi gi0 : Nat → Nat → Int32} {gl gl0 : Nat → Nat → Int64} {gr gr0 : Nat → Nat → Value} {k i0 n j : Nat} {i : Int32} {wl wc : List (Nat × Nat)}
theorem ev_zastE {x : Int32} {l u : Int} (F : x_F mi T ml rt) (hr : x_lk T pc = some (.bastore, len, a, b, q, z)) (hk : sh[k]? = some (.inr (3, n))) (a1 : l ≤ i.toInt) (h1 : decide (0 ≤ l) = true) (a2 : i.toInt ≤ u) (h2 : decide (u < (n : Int)) = true) (hn : pc + len = nx) (hI : ∀ x' : Int32, 0 ≤ x'.toInt → x'.toInt ≤ 1 → t_I sh (x_up2 gi k i.toNatClampNeg x') gr) (hX : ∀ x', t_X wl sh gi0 gl0 gr0 (x_up2 gi k i.toNatClampNeg x') gl gr) (kk : ∀ g2 x', g2 = x_up2 gi k i.toNatClampNeg x' → x' = x &&& 1 → t_I sh g2 gr → t_X wl sh gi0 gl0 gr0 g2 gl gr → x_Ev X d mi nx lo r (sh, g2, gl, gr) P) : x_Ev X d mi pc lo (.int x :: .int i :: .ref k :: r) (sh, gi, gl, gr) P :=
  ev_zast F hr hk (t_idx a1 h1 a2 h2).1 (t_idx a1 h1 a2 h2).2 hn (kk _ _ rfl rfl (hI _ (t_and1 x).1 (t_and1 x).2) (hX _))
end ZST
/-! ===== printed by riv.py: the order of those that come ===== -/
noncomputable def wl_d_put_29 : List (Nat × Nat) := [(30, 9999), (31, 9999), (32, 9999), (33, 9999), (34, 9999)]
noncomputable def Q_d_put_29 (gi : Nat → Nat → Int32) (gl : Nat → Nat → Int64) (gr : Nat → Nat → Value) (ar1 : Int32) (ar2 : Int32) (ar3 : Int32) (ar4 : Int32) (ar5 : Int32) (ar6 : Int32) : (Nat → Nat → Int32) → (Nat → Nat → Int64) → (Nat → Nat → Value) → Prop := fun (gi2 : Nat → Nat → Int32) (gl2 : Nat → Nat → Int64) (gr2 : Nat → Nat → Value) => ((0 ≤ ar1.toInt ∧ ar1.toInt ≤ 5) → (∀ j : Nat, gi2 30 j = if j = ar1.toNatClampNeg then ar2 else gi 30 j) ∧ (∀ j : Nat, gi2 31 j = if j = ar1.toNatClampNeg then ar3 else gi 31 j) ∧ (∀ j : Nat, gi2 32 j = if j = ar1.toNatClampNeg then ar4 else gi 32 j) ∧ (∀ j : Nat, gi2 33 j = if j = ar1.toNatClampNeg then ar5 else gi 33 j) ∧ (∀ j : Nat, gi2 34 j = if j = ar1.toNatClampNeg then (ar6 &&& 1) else gi 34 j))
theorem c_d_put_29 {X : x_Ext} {d : Nat} {sh : List (Nat ⊕ (Nat × Nat))} {gi : Nat → Nat → Int32} {gl : Nat → Nat → Int64} {gr : Nat → Nat → Value} (hI : t_I sh gi gr) (ar1 : Int32) (ar2 : Int32) (ar3 : Int32) (ar4 : Int32) (ar5 : Int32) (ar6 : Int32) : x_Me X (d + 1) n_X4_put [.ref 29, .int ar1, .int ar2, .int ar3, .int ar4, .int ar5, .int ar6] (sh, gi, gl, gr) (t_PN wl_d_put_29 sh gi gl gr (Q_d_put_29 gi gl gr ar1 ar2 ar3 ar4 ar5 ar6)) := by
  have hX : t_X wl_d_put_29 sh gi gl gr gi gl gr := t_X.rf
  refine me_i f_X4_put (hI.wf.s rfl) rfl rfl rfl ?_
  refine ev_loc f_X4_put (nx := 1) rfl rfl rfl rfl ?_
  refine ev_if f_X4_put (t1 := 10) (t2 := 4) rfl rfl rfl (fun h1 => ?_) (fun h1 => ?_)
  · have u2 : ar1.toInt ≤ (-1) := t_ltu h1 (by decide : (0:Int32).toInt ≤ (0:Int)) rfl
    exact ev_ret f_X4_put rfl rfl rfl ⟨_, _, _, rfl, hI, hX, ⟨rfl, (show ((0 ≤ ar1.toInt ∧ ar1.toInt ≤ 5) → (∀ j : Nat, gi 30 j = if j = ar1.toNatClampNeg then ar2 else gi 30 j) ∧ (∀ j : Nat, gi 31 j = if j = ar1.toNatClampNeg then ar3 else gi 31 j) ∧ (∀ j : Nat, gi 32 j = if j = ar1.toNatClampNeg then ar4 else gi 32 j) ∧ (∀ j : Nat, gi 33 j = if j = ar1.toNatClampNeg then ar5 else gi 33 j) ∧ (∀ j : Nat, gi 34 j = if j = ar1.toNatClampNeg then (ar6 &&& 1) else gi 34 j)) from (fun h => absurd h (by omega)))⟩⟩
  · have l3 : 0 ≤ ar1.toInt := t_lel (t_nlt h1) (by decide : (0:Int) ≤ (0:Int32).toInt)
    refine ev_loc f_X4_put (nx := 5) rfl rfl rfl rfl ?_
    refine ev_bp f_X4_put (nx := 7) (v := 6) rfl (by decide) rfl ?_
    refine ev_if f_X4_put (t1 := 11) (t2 := 10) rfl rfl rfl (fun h4 => ?_) (fun h4 => ?_)
    · have u5 : ar1.toInt ≤ 5 := t_ltu h4 (by decide : (6:Int32).toInt ≤ (6:Int)) rfl
      refine ev_loc f_X4_put (nx := 12) rfl rfl rfl rfl ?_
      refine ev_getR f_X4_put (nx := 15) rfl (hI.wf.s rfl) rfl rfl (hI.wf.r rfl) rfl rfl ?_
      refine ev_loc f_X4_put (nx := 16) rfl rfl rfl rfl ?_
      refine ev_loc f_X4_put (nx := 17) rfl rfl rfl rfl ?_
      refine ev_iastT f_X4_put (nx := 18) rfl (hI.wf.s rfl) l3 (by decide) u5 (by decide) rfl (hI.astO (hI.wf.s rfl) (Or.inl (by decide)) (by decide +kernel)) (hX.upI (t_inA_ok rfl)) (fun g6 e6 hI hX => ?_)
      refine ev_loc f_X4_put (nx := 19) rfl rfl rfl rfl ?_
      refine ev_getR f_X4_put (nx := 22) rfl (hI.wf.s rfl) rfl rfl (hI.wf.r rfl) rfl rfl ?_
      refine ev_loc f_X4_put (nx := 23) rfl rfl rfl rfl ?_
      refine ev_loc f_X4_put (nx := 24) rfl rfl rfl rfl ?_
      refine ev_iastT f_X4_put (nx := 25) rfl (hI.wf.s rfl) l3 (by decide) u5 (by decide) rfl (hI.astO (hI.wf.s rfl) (Or.inl (by decide)) (by decide +kernel)) (hX.upI (t_inA_ok rfl)) (fun g7 e7 hI hX => ?_)
      refine ev_loc f_X4_put (nx := 26) rfl rfl rfl rfl ?_
      refine ev_getR f_X4_put (nx := 29) rfl (hI.wf.s rfl) rfl rfl (hI.wf.r rfl) rfl rfl ?_
      refine ev_loc f_X4_put (nx := 30) rfl rfl rfl rfl ?_
      refine ev_loc f_X4_put (nx := 32) rfl rfl rfl rfl ?_
      refine ev_iastT f_X4_put (nx := 33) rfl (hI.wf.s rfl) l3 (by decide) u5 (by decide) rfl (hI.astO (hI.wf.s rfl) (Or.inl (by decide)) (by decide +kernel)) (hX.upI (t_inA_ok rfl)) (fun g8 e8 hI hX => ?_)
      refine ev_loc f_X4_put (nx := 34) rfl rfl rfl rfl ?_
      refine ev_getR f_X4_put (nx := 37) rfl (hI.wf.s rfl) rfl rfl (hI.wf.r rfl) rfl rfl ?_
      refine ev_loc f_X4_put (nx := 38) rfl rfl rfl rfl ?_
      refine ev_loc f_X4_put (nx := 40) rfl rfl rfl rfl ?_
      refine ev_iastT f_X4_put (nx := 41) rfl (hI.wf.s rfl) l3 (by decide) u5 (by decide) rfl (hI.astO (hI.wf.s rfl) (Or.inl (by decide)) (by decide +kernel)) (hX.upI (t_inA_ok rfl)) (fun g9 e9 hI hX => ?_)
      refine ev_loc f_X4_put (nx := 42) rfl rfl rfl rfl ?_
      refine ev_getR f_X4_put (nx := 45) rfl (hI.wf.s rfl) rfl rfl (hI.wf.r rfl) rfl rfl ?_
      refine ev_loc f_X4_put (nx := 46) rfl rfl rfl rfl ?_
      refine ev_loc f_X4_put (nx := 48) rfl rfl rfl rfl ?_
      refine ev_zastE f_X4_put (nx := 49) rfl (hI.wf.s rfl) l3 (by decide) u5 (by decide) rfl (fun x _ _ => (hI.astO (hI.wf.s rfl) (Or.inl (by decide)) (by decide +kernel))) (fun x => hX.upI (t_inA_ok rfl)) (fun g10 x10 e10 ex10 hI hX => ?_)
      exact ev_ret f_X4_put rfl rfl rfl ⟨_, _, _, rfl, hI, hX, ⟨rfl, (show ((0 ≤ ar1.toInt ∧ ar1.toInt ≤ 5) → (∀ j : Nat, g10 30 j = if j = ar1.toNatClampNeg then ar2 else gi 30 j) ∧ (∀ j : Nat, g10 31 j = if j = ar1.toNatClampNeg then ar3 else gi 31 j) ∧ (∀ j : Nat, g10 32 j = if j = ar1.toNatClampNeg then ar4 else gi 32 j) ∧ (∀ j : Nat, g10 33 j = if j = ar1.toNatClampNeg then ar5 else gi 33 j) ∧ (∀ j : Nat, g10 34 j = if j = ar1.toNatClampNeg then (ar6 &&& 1) else gi 34 j)) from (fun h => ⟨(fun j => (by rw [e10, x_up2_off (Or.inl (by decide)), e9, x_up2_off (Or.inl (by decide)), e8, x_up2_off (Or.inl (by decide)), e7, x_up2_off (Or.inl (by decide)), e6]; by_cases hj : j = ar1.toNatClampNeg; (rw [if_pos hj, hj, x_up2_at]); (rw [if_neg hj, x_up2_off (Or.inr hj)]))), (fun j => (by rw [e10, x_up2_off (Or.inl (by decide)), e9, x_up2_off (Or.inl (by decide)), e8, x_up2_off (Or.inl (by decide)), e7]; by_cases hj : j = ar1.toNatClampNeg; (rw [if_pos hj, hj, x_up2_at]); (rw [if_neg hj, x_up2_off (Or.inr hj), e6, x_up2_off (Or.inl (by decide))]))), (fun j => (by rw [e10, x_up2_off (Or.inl (by decide)), e9, x_up2_off (Or.inl (by decide)), e8]; by_cases hj : j = ar1.toNatClampNeg; (rw [if_pos hj, hj, x_up2_at]); (rw [if_neg hj, x_up2_off (Or.inr hj), e7, x_up2_off (Or.inl (by decide)), e6, x_up2_off (Or.inl (by decide))]))), (fun j => (by rw [e10, x_up2_off (Or.inl (by decide)), e9]; by_cases hj : j = ar1.toNatClampNeg; (rw [if_pos hj, hj, x_up2_at]); (rw [if_neg hj, x_up2_off (Or.inr hj), e8, x_up2_off (Or.inl (by decide)), e7, x_up2_off (Or.inl (by decide)), e6, x_up2_off (Or.inl (by decide))]))), (fun j => (by rw [e10]; by_cases hj : j = ar1.toNatClampNeg; (rw [if_pos hj, hj, x_up2_at]; exact ex10); (rw [if_neg hj, x_up2_off (Or.inr hj), e9, x_up2_off (Or.inl (by decide)), e8, x_up2_off (Or.inl (by decide)), e7, x_up2_off (Or.inl (by decide)), e6, x_up2_off (Or.inl (by decide))])))⟩))⟩⟩
    · have l11 : 6 ≤ ar1.toInt := t_lel (t_nlt h4) (by decide : (6:Int) ≤ (6:Int32).toInt)
      exact ev_ret f_X4_put rfl rfl rfl ⟨_, _, _, rfl, hI, hX, ⟨rfl, (show ((0 ≤ ar1.toInt ∧ ar1.toInt ≤ 5) → (∀ j : Nat, gi 30 j = if j = ar1.toNatClampNeg then ar2 else gi 30 j) ∧ (∀ j : Nat, gi 31 j = if j = ar1.toNatClampNeg then ar3 else gi 31 j) ∧ (∀ j : Nat, gi 32 j = if j = ar1.toNatClampNeg then ar4 else gi 32 j) ∧ (∀ j : Nat, gi 33 j = if j = ar1.toNatClampNeg then ar5 else gi 33 j) ∧ (∀ j : Nat, gi 34 j = if j = ar1.toNatClampNeg then (ar6 &&& 1) else gi 34 j)) from (fun h => absurd h (by omega)))⟩⟩
noncomputable def wl_d_join_29 : List (Nat × Nat) := [(29, 0), (30, 9999), (31, 9999), (32, 9999), (33, 9999), (34, 9999)]
noncomputable def Q_d_join_29 (gi : Nat → Nat → Int32) (gl : Nat → Nat → Int64) (gr : Nat → Nat → Value) (ar1 : Nat) (ar2 : Int32) (ar3 : Int32) : (Nat → Nat → Int32) → (Nat → Nat → Int64) → (Nat → Nat → Value) → Prop := fun (gi2 : Nat → Nat → Int32) (gl2 : Nat → Nat → Int64) (gr2 : Nat → Nat → Value) => (∀ n t w l : Nat, (gi 29 0).toInt = n → n ≤ 5 → 0 ≤ ar2.toInt → ar2.toInt < (gi ar1 0).toInt → s_LR ar1 → s_LR t → s_LR w → s_LR l → gr ar1 3 = .ref t → gr ar1 4 = .ref w → gr ar1 5 = .ref l → (∀ j : Nat, j < n → gi 34 j &&& 1 = gi 34 j) → (gi2 29 0).toInt = n + 1 ∧ ∀ j, j ≤ n → gi2 30 j = s_is (gi 30) (ar2) (s_pk (fun j => (gi 31 j).toInt) ar3.toInt n) j ∧ gi2 31 j = s_is (gi 31) (ar3) (s_pk (fun j => (gi 31 j).toInt) ar3.toInt n) j ∧ gi2 32 j = s_is (gi 32) (gi t ar2.toNatClampNeg) (s_pk (fun j => (gi 31 j).toInt) ar3.toInt n) j ∧ gi2 33 j = s_is (gi 33) (gi w ar2.toNatClampNeg) (s_pk (fun j => (gi 31 j).toInt) ar3.toInt n) j ∧ gi2 34 j = s_is (gi 34) (gi l ar2.toNatClampNeg &&& 1) (s_pk (fun j => (gi 31 j).toInt) ar3.toInt n) j)
theorem c_d_join_29 {X : x_Ext} {d : Nat} {sh : List (Nat ⊕ (Nat × Nat))} {gi : Nat → Nat → Int32} {gl : Nat → Nat → Int64} {gr : Nat → Nat → Value} (hI : t_I sh gi gr) (ar1 : Nat) (p_a1 : t_Ln sh gr ar1) (ar2 : Int32) (ar3 : Int32) : x_Me X (d + 2) n_X4_join [.ref 29, .ref ar1, .int ar2, .int ar3] (sh, gi, gl, gr) (t_PN wl_d_join_29 sh gi gl gr (Q_d_join_29 gi gl gr ar1 ar2 ar3)) := by
  have hX : t_X wl_d_join_29 sh gi gl gr gi gl gr := t_X.rf
  refine me_i f_X4_join (hI.wf.s rfl) rfl rfl rfl ?_
  obtain ⟨l1, u1⟩ := hI.b (hI.wf.s (k := 29) rfl) (t_bdK rfl : t_bd 3 0 = some (0, 6))
  refine ev_loc f_X4_join (nx := 1) rfl rfl rfl rfl ?_
  refine ev_gvI f_X4_join (nx := 4) (w := (gi 29 0)) rfl (hI.wf.s rfl) rfl rfl rfl rfl ?_
  refine ev_bp f_X4_join (nx := 6) (v := 6) rfl (by decide) rfl ?_
  refine ev_if f_X4_join (t1 := 21) (t2 := 9) rfl rfl rfl (fun h2 => ?_) (fun h2 => ?_)
  · have l3 : 6 ≤ (gi 29 0).toInt := t_lel h2 (by decide : (6:Int) ≤ (6:Int32).toInt)
    exact ev_ret f_X4_join rfl rfl rfl ⟨_, _, _, rfl, hI, hX, ⟨rfl, (show (∀ n t w l : Nat, (gi 29 0).toInt = n → n ≤ 5 → 0 ≤ ar2.toInt → ar2.toInt < (gi ar1 0).toInt → s_LR ar1 → s_LR t → s_LR w → s_LR l → gr ar1 3 = .ref t → gr ar1 4 = .ref w → gr ar1 5 = .ref l → (∀ j : Nat, j < n → gi 34 j &&& 1 = gi 34 j) → (gi 29 0).toInt = n + 1 ∧ ∀ j, j ≤ n → gi 30 j = s_is (gi 30) (ar2) (s_pk (fun j => (gi 31 j).toInt) ar3.toInt n) j ∧ gi 31 j = s_is (gi 31) (ar3) (s_pk (fun j => (gi 31 j).toInt) ar3.toInt n) j ∧ gi 32 j = s_is (gi 32) (gi t ar2.toNatClampNeg) (s_pk (fun j => (gi 31 j).toInt) ar3.toInt n) j ∧ gi 33 j = s_is (gi 33) (gi w ar2.toNatClampNeg) (s_pk (fun j => (gi 31 j).toInt) ar3.toInt n) j ∧ gi 34 j = s_is (gi 34) (gi l ar2.toNatClampNeg &&& 1) (s_pk (fun j => (gi 31 j).toInt) ar3.toInt n) j) from (fun n t w l hn hn5 ha hb r1 r2 r3 r4 k1 k2 k3 hz => (by exfalso; omega)))⟩⟩
  · have u4 : (gi 29 0).toInt ≤ 5 := t_ltu (t_nle h2) (by decide : (6:Int32).toInt ≤ (6:Int)) rfl
    refine ev_loc f_X4_join (nx := 10) rfl rfl rfl rfl ?_
    refine ev_if f_X4_join (t1 := 21) (t2 := 13) rfl rfl rfl (fun h5 => ?_) (fun h5 => ?_)
    · have u6 : ar2.toInt ≤ (-1) := t_ltu h5 (by decide : (0:Int32).toInt ≤ (0:Int)) rfl
      exact ev_ret f_X4_join rfl rfl rfl ⟨_, _, _, rfl, hI, hX, ⟨rfl, (show (∀ n t w l : Nat, (gi 29 0).toInt = n → n ≤ 5 → 0 ≤ ar2.toInt → ar2.toInt < (gi ar1 0).toInt → s_LR ar1 → s_LR t → s_LR w → s_LR l → gr ar1 3 = .ref t → gr ar1 4 = .ref w → gr ar1 5 = .ref l → (∀ j : Nat, j < n → gi 34 j &&& 1 = gi 34 j) → (gi 29 0).toInt = n + 1 ∧ ∀ j, j ≤ n → gi 30 j = s_is (gi 30) (ar2) (s_pk (fun j => (gi 31 j).toInt) ar3.toInt n) j ∧ gi 31 j = s_is (gi 31) (ar3) (s_pk (fun j => (gi 31 j).toInt) ar3.toInt n) j ∧ gi 32 j = s_is (gi 32) (gi t ar2.toNatClampNeg) (s_pk (fun j => (gi 31 j).toInt) ar3.toInt n) j ∧ gi 33 j = s_is (gi 33) (gi w ar2.toNatClampNeg) (s_pk (fun j => (gi 31 j).toInt) ar3.toInt n) j ∧ gi 34 j = s_is (gi 34) (gi l ar2.toNatClampNeg &&& 1) (s_pk (fun j => (gi 31 j).toInt) ar3.toInt n) j) from (fun n t w l hn hn5 ha hb r1 r2 r3 r4 k1 k2 k3 hz => (by exfalso; omega)))⟩⟩
    · have l7 : 0 ≤ ar2.toInt := t_lel (t_nlt h5) (by decide : (0:Int) ≤ (0:Int32).toInt)
      refine ev_loc f_X4_join (nx := 14) rfl rfl rfl rfl ?_
      refine ev_loc f_X4_join (nx := 15) rfl rfl rfl rfl ?_
      refine ev_getI f_X4_join (nx := 18) rfl p_a1.1 rfl rfl rfl ?_
      obtain ⟨l8, u8⟩ := hI.b p_a1.1 (t_bdK rfl : t_bd 3 0 = some (0, 6))
      refine ev_if f_X4_join (t1 := 22) (t2 := 21) rfl rfl rfl (fun h9 => ?_) (fun h9 => ?_)
      · have r10 : ar2.toInt < (gi ar1 0).toInt := Int32.lt_iff_toInt_lt.mp h9
        have u11 : ar2.toInt ≤ 5 := t_ltu h9 u8 rfl
        have l12 : 1 ≤ (gi ar1 0).toInt := t_ltl h9 l7 rfl
        refine ev_loc f_X4_join (nx := 23) rfl rfl rfl rfl ?_
        refine ev_gvI f_X4_join (nx := 26) (w := (gi 29 0)) rfl (hI.wf.s rfl) rfl rfl rfl rfl ?_
        refine ev_loc f_X4_join (nx := 28) (lo' := [(4, .int (gi 29 0)), (0, .ref 29), (1, .ref ar1), (2, .int ar2), (3, .int ar3)]) rfl rfl rfl rfl ?_
        refine ev_loc f_X4_join (nx := 29) rfl rfl rfl rfl ?_
        refine ev_alu f_X4_join (nx := 30) rfl rfl rfl rfl ?_
        refine ev_gvI f_X4_join (nx := 33) (w := (gi 29 0)) rfl (hI.wf.s rfl) rfl rfl rfl rfl ?_
        refine ev_ic f_X4_join (nx := 34) (v := 1) rfl (by decide) rfl ?_
        refine ev_addC f_X4_join (nx := 35) (c := 1) (l := 1) (u := 6) rfl (by decide) l1 u4 rfl rfl (by decide) (by decide) rfl (fun z13 e13 l13 u13 => ?_)
        refine ev_putIT f_X4_join (nx := 38) rfl (hI.wf.s rfl) rfl rfl rfl (hI.putB (hI.wf.s rfl) rfl rfl l13 (by decide) u13 (by decide)) (hX.upI rfl) (fun g14 e14 hI hX => ?_)
        have L15 : ∀ (m15 : Nat) (gi15 : Nat → Nat → Int32) (gl15 : Nat → Nat → Int64) (gr15 : Nat → Nat → Value) (y15_4 : Int32), t_I sh gi15 gr15 → t_X wl_d_join_29 sh gi gl gr gi15 gl15 gr15 → t_Ln sh gr15 ar1 → 0 ≤ y15_4.toInt → y15_4.toInt ≤ 5 → gi15 29 0 = z13 → (∀ n : Nat, (gi 29 0).toInt = n → n ≤ 5 → (∀ j : Nat, j < n → gi 34 j &&& 1 = gi 34 j) → s_J (gi 30) (gi15 30) (fun j => (gi 31 j).toInt) n ar3.toInt y15_4.toNatClampNeg ∧ s_J (gi 31) (gi15 31) (fun j => (gi 31 j).toInt) n ar3.toInt y15_4.toNatClampNeg ∧ s_J (gi 32) (gi15 32) (fun j => (gi 31 j).toInt) n ar3.toInt y15_4.toNatClampNeg ∧ s_J (gi 33) (gi15 33) (fun j => (gi 31 j).toInt) n ar3.toInt y15_4.toNatClampNeg ∧ s_J (gi 34) (gi15 34) (fun j => (gi 31 j).toInt) n ar3.toInt y15_4.toNatClampNeg ∧ (gi15 29 0).toInt = n + 1) → (y15_4.toInt - 0).toNat = m15 → x_Ev X (d + 2) n_X4_join 38 [(4, .int y15_4), (0, .ref 29), (1, .ref ar1), (2, .int ar2), (3, .int ar3)] [] (sh, gi15, gl15, gr15) (t_PN wl_d_join_29 sh gi gl gr (Q_d_join_29 gi gl gr ar1 ar2 ar3)) := by
          intro m15
          induction m15 using Nat.strongRecOn with
          | _ m15 ih15 =>
          intro gi15 gl15 gr15 y15_4 hI hX p_a1 l15_4 u15_4 c15_0 j15_0 hm15
          refine ev_loc f_X4_join (nx := 40) rfl rfl rfl rfl ?_
          have hXh := hX
          refine ev_if f_X4_join (t1 := 113) (t2 := 43) rfl rfl rfl (fun h16 => ?_) (fun h16 => ?_)
          · have u17 : y15_4.toInt ≤ 0 := t_leu h16 (by decide : (0:Int32).toInt ≤ (0:Int))
            refine ev_loc f_X4_join (nx := 114) rfl rfl rfl rfl ?_
            refine ev_loc f_X4_join (nx := 116) rfl rfl rfl rfl ?_
            refine ev_loc f_X4_join (nx := 117) rfl rfl rfl rfl ?_
            refine ev_loc f_X4_join (nx := 118) rfl rfl rfl rfl ?_
            refine ev_loc f_X4_join (nx := 119) rfl rfl rfl rfl ?_
            obtain ⟨a18, e18, s18, o18⟩ := p_a1.2.2.2.1
            refine ev_getR f_X4_join (nx := 122) rfl p_a1.1 rfl rfl e18 rfl rfl ?_
            refine ev_loc f_X4_join (nx := 123) rfl rfl rfl rfl ?_
            refine ev_ialdT f_X4_join (nx := 124) rfl s18 l7 (by decide) u11 (by decide) rfl (fun w19 e19 => ?_)
            refine ev_loc f_X4_join (nx := 125) rfl rfl rfl rfl ?_
            obtain ⟨a20, e20, s20, o20⟩ := p_a1.2.2.2.2.1
            refine ev_getR f_X4_join (nx := 128) rfl p_a1.1 rfl rfl e20 rfl rfl ?_
            refine ev_loc f_X4_join (nx := 129) rfl rfl rfl rfl ?_
            refine ev_ialdT f_X4_join (nx := 130) rfl s20 l7 (by decide) u11 (by decide) rfl (fun w21 e21 => ?_)
            refine ev_loc f_X4_join (nx := 131) rfl rfl rfl rfl ?_
            obtain ⟨a22, e22, s22, o22⟩ := p_a1.2.2.2.2.2
            refine ev_getR f_X4_join (nx := 134) rfl p_a1.1 rfl rfl e22 rfl rfl ?_
            refine ev_loc f_X4_join (nx := 135) rfl rfl rfl rfl ?_
            refine ev_baldT f_X4_join (nx := 136) rfl s22 rfl l7 (by decide) u11 (by decide) rfl (fun w23 e23 => ?_)
            refine ev_qN f_X4_join (nx := 139) (r := []) rfl rfl rfl rfl rfl rfl rfl (c_d_put_29 hI (y15_4) (ar2) (ar3) (w19) (w21) (w23)) rfl hX rfl (fun gi24 gl24 gr24 hI hX hC24 q24 => ?_)
            have q24 : ((0 ≤ y15_4.toInt ∧ y15_4.toInt ≤ 5) → (∀ j : Nat, gi24 30 j = if j = y15_4.toNatClampNeg then ar2 else gi15 30 j) ∧ (∀ j : Nat, gi24 31 j = if j = y15_4.toNatClampNeg then ar3 else gi15 31 j) ∧ (∀ j : Nat, gi24 32 j = if j = y15_4.toNatClampNeg then w19 else gi15 32 j) ∧ (∀ j : Nat, gi24 33 j = if j = y15_4.toNatClampNeg then w21 else gi15 33 j) ∧ (∀ j : Nat, gi24 34 j = if j = y15_4.toNatClampNeg then (w23 &&& 1) else gi15 34 j)) := q24
            replace p_a1 := p_a1.ext hC24.2
            exact ev_ret f_X4_join rfl rfl rfl ⟨_, _, _, rfl, hI, hX, ⟨rfl, (show (∀ n t w l : Nat, (gi 29 0).toInt = n → n ≤ 5 → 0 ≤ ar2.toInt → ar2.toInt < (gi ar1 0).toInt → s_LR ar1 → s_LR t → s_LR w → s_LR l → gr ar1 3 = .ref t → gr ar1 4 = .ref w → gr ar1 5 = .ref l → (∀ j : Nat, j < n → gi 34 j &&& 1 = gi 34 j) → (gi24 29 0).toInt = n + 1 ∧ ∀ j, j ≤ n → gi24 30 j = s_is (gi 30) (ar2) (s_pk (fun j => (gi 31 j).toInt) ar3.toInt n) j ∧ gi24 31 j = s_is (gi 31) (ar3) (s_pk (fun j => (gi 31 j).toInt) ar3.toInt n) j ∧ gi24 32 j = s_is (gi 32) (gi t ar2.toNatClampNeg) (s_pk (fun j => (gi 31 j).toInt) ar3.toInt n) j ∧ gi24 33 j = s_is (gi 33) (gi w ar2.toNatClampNeg) (s_pk (fun j => (gi 31 j).toInt) ar3.toInt n) j ∧ gi24 34 j = s_is (gi 34) (gi l ar2.toNatClampNeg &&& 1) (s_pk (fun j => (gi 31 j).toInt) ar3.toInt n) j) from (fun n t w l hn hn5 ha hb r1 r2 r3 r4 k1 k2 k3 hz => (by
                                                            obtain ⟨h1, h2, h3, h4, h5, hcn⟩ := j15_0 n hn hn5 hz
                                                            obtain ⟨q1, q2, q3, q4, q5⟩ := q24 ⟨by omega, by omega⟩
                                                            have hc0 : gi24 29 0 = gi15 29 0 := (hC24.1 29 0 rfl).1
                                                            have hK := t_nd_fr hXh rfl
                                                            have hb3 : a18 = t := Value.ref.inj ((e18).symm.trans ((congrFun (hK ar1 r1).2.2 3).trans k1))
                                                            subst hb3
                                                            have hb4 : a20 = w := Value.ref.inj ((e20).symm.trans ((congrFun (hK ar1 r1).2.2 4).trans k2))
                                                            subst hb4
                                                            have hb5 : a22 = l := Value.ref.inj ((e22).symm.trans ((congrFun (hK ar1 r1).2.2 5).trans k3))
                                                            subst hb5
                                                            have hx0 : w19 = gi a18 ar2.toNatClampNeg := by rw [e19, (hK _ r2).1]
                                                            have hx1 : w21 = gi a20 ar2.toNatClampNeg := by rw [e21, (hK _ r3).1]
                                                            have hx2 : w23 = gi a22 ar2.toNatClampNeg := by rw [e23, (hK _ r4).1]
                                                            have hs : y15_4.toNatClampNeg = 0 ∨ (gi 31 (y15_4.toNatClampNeg - 1)).toInt ≤ ar3.toInt := Or.inl (s_c00 (by omega) (by omega))
                                                            rw [hx0] at q3
                                                            rw [hx1] at q4
                                                            rw [hx2] at q5
                                                            exact ⟨by rw [hc0]; exact hcn, fun j hj => ⟨s_J_e h1 hs q1 j hj, s_J_e h2 hs q2 j hj, s_J_e h3 hs q3 j hj, s_J_e h4 hs q4 j hj, s_J_e h5 hs q5 j hj⟩⟩)))⟩⟩
          · have l25 : 1 ≤ y15_4.toInt := t_ltl (t_nle h16) (by decide : (0:Int) ≤ (0:Int32).toInt) rfl
            refine ev_loc f_X4_join (nx := 44) rfl rfl rfl rfl ?_
            refine ev_getR f_X4_join (nx := 47) rfl (hI.wf.s rfl) rfl rfl (hI.wf.r rfl) rfl rfl ?_
            refine ev_loc f_X4_join (nx := 49) rfl rfl rfl rfl ?_
            refine ev_ic f_X4_join (nx := 50) (v := 1) rfl (by decide) rfl ?_
            refine ev_subC f_X4_join (nx := 51) (c := 1) (l := 0) (u := 4) rfl (by decide) l25 u15_4 rfl rfl (by decide) (by decide) rfl (fun z26 e26 l26 u26 => ?_)
            refine ev_ialdT f_X4_join (nx := 52) rfl (hI.wf.s rfl) l26 (by decide) u26 (by decide) rfl (fun w27 e27 => ?_)
            refine ev_loc f_X4_join (nx := 53) rfl rfl rfl rfl ?_
            refine ev_if f_X4_join (t1 := 113) (t2 := 56) rfl rfl rfl (fun h28 => ?_) (fun h28 => ?_)
            · have r29 : w27.toInt ≤ ar3.toInt := Int32.le_iff_toInt_le.mp h28
              refine ev_loc f_X4_join (nx := 114) rfl rfl rfl rfl ?_
              refine ev_loc f_X4_join (nx := 116) rfl rfl rfl rfl ?_
              refine ev_loc f_X4_join (nx := 117) rfl rfl rfl rfl ?_
              refine ev_loc f_X4_join (nx := 118) rfl rfl rfl rfl ?_
              refine ev_loc f_X4_join (nx := 119) rfl rfl rfl rfl ?_
              obtain ⟨a30, e30, s30, o30⟩ := p_a1.2.2.2.1
              refine ev_getR f_X4_join (nx := 122) rfl p_a1.1 rfl rfl e30 rfl rfl ?_
              refine ev_loc f_X4_join (nx := 123) rfl rfl rfl rfl ?_
              refine ev_ialdT f_X4_join (nx := 124) rfl s30 l7 (by decide) u11 (by decide) rfl (fun w31 e31 => ?_)
              refine ev_loc f_X4_join (nx := 125) rfl rfl rfl rfl ?_
              obtain ⟨a32, e32, s32, o32⟩ := p_a1.2.2.2.2.1
              refine ev_getR f_X4_join (nx := 128) rfl p_a1.1 rfl rfl e32 rfl rfl ?_
              refine ev_loc f_X4_join (nx := 129) rfl rfl rfl rfl ?_
              refine ev_ialdT f_X4_join (nx := 130) rfl s32 l7 (by decide) u11 (by decide) rfl (fun w33 e33 => ?_)
              refine ev_loc f_X4_join (nx := 131) rfl rfl rfl rfl ?_
              obtain ⟨a34, e34, s34, o34⟩ := p_a1.2.2.2.2.2
              refine ev_getR f_X4_join (nx := 134) rfl p_a1.1 rfl rfl e34 rfl rfl ?_
              refine ev_loc f_X4_join (nx := 135) rfl rfl rfl rfl ?_
              refine ev_baldT f_X4_join (nx := 136) rfl s34 rfl l7 (by decide) u11 (by decide) rfl (fun w35 e35 => ?_)
              refine ev_qN f_X4_join (nx := 139) (r := []) rfl rfl rfl rfl rfl rfl rfl (c_d_put_29 hI (y15_4) (ar2) (ar3) (w31) (w33) (w35)) rfl hX rfl (fun gi36 gl36 gr36 hI hX hC36 q36 => ?_)
              have q36 : ((0 ≤ y15_4.toInt ∧ y15_4.toInt ≤ 5) → (∀ j : Nat, gi36 30 j = if j = y15_4.toNatClampNeg then ar2 else gi15 30 j) ∧ (∀ j : Nat, gi36 31 j = if j = y15_4.toNatClampNeg then ar3 else gi15 31 j) ∧ (∀ j : Nat, gi36 32 j = if j = y15_4.toNatClampNeg then w31 else gi15 32 j) ∧ (∀ j : Nat, gi36 33 j = if j = y15_4.toNatClampNeg then w33 else gi15 33 j) ∧ (∀ j : Nat, gi36 34 j = if j = y15_4.toNatClampNeg then (w35 &&& 1) else gi15 34 j)) := q36
              replace p_a1 := p_a1.ext hC36.2
              exact ev_ret f_X4_join rfl rfl rfl ⟨_, _, _, rfl, hI, hX, ⟨rfl, (show (∀ n t w l : Nat, (gi 29 0).toInt = n → n ≤ 5 → 0 ≤ ar2.toInt → ar2.toInt < (gi ar1 0).toInt → s_LR ar1 → s_LR t → s_LR w → s_LR l → gr ar1 3 = .ref t → gr ar1 4 = .ref w → gr ar1 5 = .ref l → (∀ j : Nat, j < n → gi 34 j &&& 1 = gi 34 j) → (gi36 29 0).toInt = n + 1 ∧ ∀ j, j ≤ n → gi36 30 j = s_is (gi 30) (ar2) (s_pk (fun j => (gi 31 j).toInt) ar3.toInt n) j ∧ gi36 31 j = s_is (gi 31) (ar3) (s_pk (fun j => (gi 31 j).toInt) ar3.toInt n) j ∧ gi36 32 j = s_is (gi 32) (gi t ar2.toNatClampNeg) (s_pk (fun j => (gi 31 j).toInt) ar3.toInt n) j ∧ gi36 33 j = s_is (gi 33) (gi w ar2.toNatClampNeg) (s_pk (fun j => (gi 31 j).toInt) ar3.toInt n) j ∧ gi36 34 j = s_is (gi 34) (gi l ar2.toNatClampNeg &&& 1) (s_pk (fun j => (gi 31 j).toInt) ar3.toInt n) j) from (fun n t w l hn hn5 ha hb r1 r2 r3 r4 k1 k2 k3 hz => (by
                                                            obtain ⟨h1, h2, h3, h4, h5, hcn⟩ := j15_0 n hn hn5 hz
                                                            obtain ⟨q1, q2, q3, q4, q5⟩ := q36 ⟨by omega, by omega⟩
                                                            have hc0 : gi36 29 0 = gi15 29 0 := (hC36.1 29 0 rfl).1
                                                            have hK := t_nd_fr hXh rfl
                                                            have hb3 : a30 = t := Value.ref.inj ((e30).symm.trans ((congrFun (hK ar1 r1).2.2 3).trans k1))
                                                            subst hb3
                                                            have hb4 : a32 = w := Value.ref.inj ((e32).symm.trans ((congrFun (hK ar1 r1).2.2 4).trans k2))
                                                            subst hb4
                                                            have hb5 : a34 = l := Value.ref.inj ((e34).symm.trans ((congrFun (hK ar1 r1).2.2 5).trans k3))
                                                            subst hb5
                                                            have hx0 : w31 = gi a30 ar2.toNatClampNeg := by rw [e31, (hK _ r2).1]
                                                            have hx1 : w33 = gi a32 ar2.toNatClampNeg := by rw [e33, (hK _ r3).1]
                                                            have hx2 : w35 = gi a34 ar2.toNatClampNeg := by rw [e35, (hK _ r4).1]
                                                            have hp : 0 < y15_4.toNatClampNeg := s_c0 (by omega)
                                                            have hv0 : w27 = gi15 31 (y15_4.toNatClampNeg - 1) := by rw [e27, s_cm l26 e26]
                                                            have hs : y15_4.toNatClampNeg = 0 ∨ (gi 31 (y15_4.toNatClampNeg - 1)).toInt ≤ ar3.toInt := Or.inr (by rw [← s_J_at h2 hp, ← hv0]; omega)
                                                            rw [hx0] at q3
                                                            rw [hx1] at q4
                                                            rw [hx2] at q5
                                                            exact ⟨by rw [hc0]; exact hcn, fun j hj => ⟨s_J_e h1 hs q1 j hj, s_J_e h2 hs q2 j hj, s_J_e h3 hs q3 j hj, s_J_e h4 hs q4 j hj, s_J_e h5 hs q5 j hj⟩⟩)))⟩⟩
            · have r37 : ar3.toInt < w27.toInt := Int32.lt_iff_toInt_lt.mp (t_nle h28)
              have u38 : ar3.toInt ≤ 2147483646 := t_ltu (t_nle h28) (t_hi w27) rfl
              have l39 : (-2147483647) ≤ w27.toInt := t_ltl (t_nle h28) (t_lo ar3) rfl
              refine ev_loc f_X4_join (nx := 57) rfl rfl rfl rfl ?_
              refine ev_loc f_X4_join (nx := 59) rfl rfl rfl rfl ?_
              refine ev_loc f_X4_join (nx := 60) rfl rfl rfl rfl ?_
              refine ev_getR f_X4_join (nx := 63) rfl (hI.wf.s rfl) rfl rfl (hI.wf.r rfl) rfl rfl ?_
              refine ev_loc f_X4_join (nx := 65) rfl rfl rfl rfl ?_
              refine ev_ic f_X4_join (nx := 66) (v := 1) rfl (by decide) rfl ?_
              refine ev_subC f_X4_join (nx := 67) (c := 1) (l := 0) (u := 4) rfl (by decide) l25 u15_4 rfl rfl (by decide) (by decide) rfl (fun z40 e40 l40 u40 => ?_)
              refine ev_ialdT f_X4_join (nx := 68) rfl (hI.wf.s rfl) l40 (by decide) u40 (by decide) rfl (fun w41 e41 => ?_)
              refine ev_loc f_X4_join (nx := 69) rfl rfl rfl rfl ?_
              refine ev_getR f_X4_join (nx := 72) rfl (hI.wf.s rfl) rfl rfl (hI.wf.r rfl) rfl rfl ?_
              refine ev_loc f_X4_join (nx := 74) rfl rfl rfl rfl ?_
              refine ev_ic f_X4_join (nx := 75) (v := 1) rfl (by decide) rfl ?_
              refine ev_subC f_X4_join (nx := 76) (c := 1) (l := 0) (u := 4) rfl (by decide) l25 u15_4 rfl rfl (by decide) (by decide) rfl (fun z42 e42 l42 u42 => ?_)
              refine ev_ialdT f_X4_join (nx := 77) rfl (hI.wf.s rfl) l42 (by decide) u42 (by decide) rfl (fun w43 e43 => ?_)
              refine ev_loc f_X4_join (nx := 78) rfl rfl rfl rfl ?_
              refine ev_getR f_X4_join (nx := 81) rfl (hI.wf.s rfl) rfl rfl (hI.wf.r rfl) rfl rfl ?_
              refine ev_loc f_X4_join (nx := 83) rfl rfl rfl rfl ?_
              refine ev_ic f_X4_join (nx := 84) (v := 1) rfl (by decide) rfl ?_
              refine ev_subC f_X4_join (nx := 85) (c := 1) (l := 0) (u := 4) rfl (by decide) l25 u15_4 rfl rfl (by decide) (by decide) rfl (fun z44 e44 l44 u44 => ?_)
              refine ev_ialdT f_X4_join (nx := 86) rfl (hI.wf.s rfl) l44 (by decide) u44 (by decide) rfl (fun w45 e45 => ?_)
              refine ev_loc f_X4_join (nx := 87) rfl rfl rfl rfl ?_
              refine ev_getR f_X4_join (nx := 90) rfl (hI.wf.s rfl) rfl rfl (hI.wf.r rfl) rfl rfl ?_
              refine ev_loc f_X4_join (nx := 92) rfl rfl rfl rfl ?_
              refine ev_ic f_X4_join (nx := 93) (v := 1) rfl (by decide) rfl ?_
              refine ev_subC f_X4_join (nx := 94) (c := 1) (l := 0) (u := 4) rfl (by decide) l25 u15_4 rfl rfl (by decide) (by decide) rfl (fun z46 e46 l46 u46 => ?_)
              refine ev_ialdT f_X4_join (nx := 95) rfl (hI.wf.s rfl) l46 (by decide) u46 (by decide) rfl (fun w47 e47 => ?_)
              refine ev_loc f_X4_join (nx := 96) rfl rfl rfl rfl ?_
              refine ev_getR f_X4_join (nx := 99) rfl (hI.wf.s rfl) rfl rfl (hI.wf.r rfl) rfl rfl ?_
              refine ev_loc f_X4_join (nx := 101) rfl rfl rfl rfl ?_
              refine ev_ic f_X4_join (nx := 102) (v := 1) rfl (by decide) rfl ?_
              refine ev_subC f_X4_join (nx := 103) (c := 1) (l := 0) (u := 4) rfl (by decide) l25 u15_4 rfl rfl (by decide) (by decide) rfl (fun z48 e48 l48 u48 => ?_)
              refine ev_baldT f_X4_join (nx := 104) rfl (hI.wf.s rfl) rfl l48 (by decide) u48 (by decide) rfl (fun w49 e49 => ?_)
              refine ev_qN f_X4_join (nx := 107) (r := []) rfl rfl rfl rfl rfl rfl rfl (c_d_put_29 hI (y15_4) (w41) (w43) (w45) (w47) (w49)) rfl hX rfl (fun gi50 gl50 gr50 hI hX hC50 q50 => ?_)
              have q50 : ((0 ≤ y15_4.toInt ∧ y15_4.toInt ≤ 5) → (∀ j : Nat, gi50 30 j = if j = y15_4.toNatClampNeg then w41 else gi15 30 j) ∧ (∀ j : Nat, gi50 31 j = if j = y15_4.toNatClampNeg then w43 else gi15 31 j) ∧ (∀ j : Nat, gi50 32 j = if j = y15_4.toNatClampNeg then w45 else gi15 32 j) ∧ (∀ j : Nat, gi50 33 j = if j = y15_4.toNatClampNeg then w47 else gi15 33 j) ∧ (∀ j : Nat, gi50 34 j = if j = y15_4.toNatClampNeg then (w49 &&& 1) else gi15 34 j)) := q50
              replace p_a1 := p_a1.ext hC50.2
              refine ev_incR f_X4_join (nx := 110) (c := (-1)) (l := 0) (u := 4) rfl rfl (by decide) (by decide) l25 u15_4 rfl rfl (by decide) (by decide) rfl (fun z51 e51 l51 u51 => ?_)
              refine ev_jmp f_X4_join (nx := 38) rfl rfl rfl ?_
              refine ev_sub (lo := [(4, .int z51), (0, .ref 29), (1, .ref ar1), (2, .int ar2), (3, .int ar3)]) rfl (t_sc rfl (t_sc rfl (t_sc rfl (t_sc rfl (t_sc rfl t_sn))))) ?_
              exact ih15 _ (by omega) gi50 gl50 gr50 (z51) hI hX p_a1 l51 (Int.le_trans u51 (by decide : (4:Int) ≤ 5)) ((hC50.1 29 0 rfl).1.trans c15_0) (fun n hn hn5 hz => (by
                                                            obtain ⟨h1, h2, h3, h4, h5, hcn⟩ := j15_0 n hn hn5 hz
                                                            obtain ⟨q1, q2, q3, q4, q5⟩ := q50 ⟨by omega, by omega⟩
                                                            have hp : 0 < y15_4.toNatClampNeg := s_c0 (by omega)
                                                            have hv0 : w27 = gi15 31 (y15_4.toNatClampNeg - 1) := by rw [e27, s_cm l26 e26]
                                                            have hv1 : w41 = gi15 30 (y15_4.toNatClampNeg - 1) := by rw [e41, s_cm l40 e40]
                                                            have hv2 : w43 = gi15 31 (y15_4.toNatClampNeg - 1) := by rw [e43, s_cm l42 e42]
                                                            have hv3 : w45 = gi15 32 (y15_4.toNatClampNeg - 1) := by rw [e45, s_cm l44 e44]
                                                            have hv4 : w47 = gi15 33 (y15_4.toNatClampNeg - 1) := by rw [e47, s_cm l46 e46]
                                                            have hv5 : w49 = gi15 34 (y15_4.toNatClampNeg - 1) := by rw [e49, s_cm l48 e48]
                                                            have hc0 : gi50 29 0 = gi15 29 0 := (hC50.1 29 0 rfl).1
                                                            have hg : ar3.toInt < (gi 31 (y15_4.toNatClampNeg - 1)).toInt := by rw [← s_J_at h2 hp, ← hv0]; omega
                                                            have hv6 : w49 &&& 1 = gi15 34 (y15_4.toNatClampNeg - 1) := by rw [hv5, s_J_at h5 hp]; exact hz _ (by have := h5.1; omega)
                                                            rw [s_cm2 l51 e51]
                                                            exact ⟨s_J_s h1 hp hg q1 hv1, s_J_s h2 hp hg q2 hv2, s_J_s h3 hp hg q3 hv3, s_J_s h4 hp hg q4 hv4, s_J_s h5 hp hg q5 hv6, by rw [hc0]; exact hcn⟩)) rfl
        refine ev_sub (lo := [(4, .int (gi 29 0)), (0, .ref 29), (1, .ref ar1), (2, .int ar2), (3, .int ar3)]) rfl (t_sc rfl (t_sc rfl (t_sc rfl (t_sc rfl (t_sc rfl t_sn))))) ?_
        exact L15 _ g14 gl gr ((gi 29 0)) hI hX p_a1 l1 u4 (by rw [e14]; exact x_up2_at _ _ _ _ : g14 29 0 = z13) (fun n hn hn5 hz => (by
                                                            have cx := t_clamp (i := (gi 29 0)) (by omega)
                                                            have ff52 : (g14 29 0).toInt = z13.toInt := congrArg Int32.toInt (by rw [e14]; exact x_up2_at _ _ _ _ : g14 29 0 = z13)
                                                            rw [show ((gi 29 0)).toNatClampNeg = n from (by omega)]
                                                            exact ⟨s_J_b (fun j _ => by rw [e14, x_up2_off (Or.inl (by decide))]), s_J_b (fun j _ => by rw [e14, x_up2_off (Or.inl (by decide))]), s_J_b (fun j _ => by rw [e14, x_up2_off (Or.inl (by decide))]), s_J_b (fun j _ => by rw [e14, x_up2_off (Or.inl (by decide))]), s_J_b (fun j _ => by rw [e14, x_up2_off (Or.inl (by decide))]), by omega⟩)) rfl
      · have r53 : (gi ar1 0).toInt ≤ ar2.toInt := Int32.le_iff_toInt_le.mp (t_nlt h9)
        exact ev_ret f_X4_join rfl rfl rfl ⟨_, _, _, rfl, hI, hX, ⟨rfl, (show (∀ n t w l : Nat, (gi 29 0).toInt = n → n ≤ 5 → 0 ≤ ar2.toInt → ar2.toInt < (gi ar1 0).toInt → s_LR ar1 → s_LR t → s_LR w → s_LR l → gr ar1 3 = .ref t → gr ar1 4 = .ref w → gr ar1 5 = .ref l → (∀ j : Nat, j < n → gi 34 j &&& 1 = gi 34 j) → (gi 29 0).toInt = n + 1 ∧ ∀ j, j ≤ n → gi 30 j = s_is (gi 30) (ar2) (s_pk (fun j => (gi 31 j).toInt) ar3.toInt n) j ∧ gi 31 j = s_is (gi 31) (ar3) (s_pk (fun j => (gi 31 j).toInt) ar3.toInt n) j ∧ gi 32 j = s_is (gi 32) (gi t ar2.toNatClampNeg) (s_pk (fun j => (gi 31 j).toInt) ar3.toInt n) j ∧ gi 33 j = s_is (gi 33) (gi w ar2.toNatClampNeg) (s_pk (fun j => (gi 31 j).toInt) ar3.toInt n) j ∧ gi 34 j = s_is (gi 34) (gi l ar2.toNatClampNeg &&& 1) (s_pk (fun j => (gi 31 j).toInt) ar3.toInt n) j) from (fun n t w l hn hn5 ha hb r1 r2 r3 r4 k1 k2 k3 hz => (by exfalso; omega)))⟩⟩
noncomputable def wl_d_put_35 : List (Nat × Nat) := [(36, 9999), (37, 9999), (38, 9999), (39, 9999), (40, 9999)]
noncomputable def Q_d_put_35 (gi : Nat → Nat → Int32) (gl : Nat → Nat → Int64) (gr : Nat → Nat → Value) (ar1 : Int32) (ar2 : Int32) (ar3 : Int32) (ar4 : Int32) (ar5 : Int32) (ar6 : Int32) : (Nat → Nat → Int32) → (Nat → Nat → Int64) → (Nat → Nat → Value) → Prop := fun (gi2 : Nat → Nat → Int32) (gl2 : Nat → Nat → Int64) (gr2 : Nat → Nat → Value) => ((0 ≤ ar1.toInt ∧ ar1.toInt ≤ 5) → (∀ j : Nat, gi2 36 j = if j = ar1.toNatClampNeg then ar2 else gi 36 j) ∧ (∀ j : Nat, gi2 37 j = if j = ar1.toNatClampNeg then ar3 else gi 37 j) ∧ (∀ j : Nat, gi2 38 j = if j = ar1.toNatClampNeg then ar4 else gi 38 j) ∧ (∀ j : Nat, gi2 39 j = if j = ar1.toNatClampNeg then ar5 else gi 39 j) ∧ (∀ j : Nat, gi2 40 j = if j = ar1.toNatClampNeg then (ar6 &&& 1) else gi 40 j))
theorem c_d_put_35 {X : x_Ext} {d : Nat} {sh : List (Nat ⊕ (Nat × Nat))} {gi : Nat → Nat → Int32} {gl : Nat → Nat → Int64} {gr : Nat → Nat → Value} (hI : t_I sh gi gr) (ar1 : Int32) (ar2 : Int32) (ar3 : Int32) (ar4 : Int32) (ar5 : Int32) (ar6 : Int32) : x_Me X (d + 1) n_X4_put [.ref 35, .int ar1, .int ar2, .int ar3, .int ar4, .int ar5, .int ar6] (sh, gi, gl, gr) (t_PN wl_d_put_35 sh gi gl gr (Q_d_put_35 gi gl gr ar1 ar2 ar3 ar4 ar5 ar6)) := by
  have hX : t_X wl_d_put_35 sh gi gl gr gi gl gr := t_X.rf
  refine me_i f_X4_put (hI.wf.s rfl) rfl rfl rfl ?_
  refine ev_loc f_X4_put (nx := 1) rfl rfl rfl rfl ?_
  refine ev_if f_X4_put (t1 := 10) (t2 := 4) rfl rfl rfl (fun h1 => ?_) (fun h1 => ?_)
  · have u2 : ar1.toInt ≤ (-1) := t_ltu h1 (by decide : (0:Int32).toInt ≤ (0:Int)) rfl
    exact ev_ret f_X4_put rfl rfl rfl ⟨_, _, _, rfl, hI, hX, ⟨rfl, (show ((0 ≤ ar1.toInt ∧ ar1.toInt ≤ 5) → (∀ j : Nat, gi 36 j = if j = ar1.toNatClampNeg then ar2 else gi 36 j) ∧ (∀ j : Nat, gi 37 j = if j = ar1.toNatClampNeg then ar3 else gi 37 j) ∧ (∀ j : Nat, gi 38 j = if j = ar1.toNatClampNeg then ar4 else gi 38 j) ∧ (∀ j : Nat, gi 39 j = if j = ar1.toNatClampNeg then ar5 else gi 39 j) ∧ (∀ j : Nat, gi 40 j = if j = ar1.toNatClampNeg then (ar6 &&& 1) else gi 40 j)) from (fun h => absurd h (by omega)))⟩⟩
  · have l3 : 0 ≤ ar1.toInt := t_lel (t_nlt h1) (by decide : (0:Int) ≤ (0:Int32).toInt)
    refine ev_loc f_X4_put (nx := 5) rfl rfl rfl rfl ?_
    refine ev_bp f_X4_put (nx := 7) (v := 6) rfl (by decide) rfl ?_
    refine ev_if f_X4_put (t1 := 11) (t2 := 10) rfl rfl rfl (fun h4 => ?_) (fun h4 => ?_)
    · have u5 : ar1.toInt ≤ 5 := t_ltu h4 (by decide : (6:Int32).toInt ≤ (6:Int)) rfl
      refine ev_loc f_X4_put (nx := 12) rfl rfl rfl rfl ?_
      refine ev_getR f_X4_put (nx := 15) rfl (hI.wf.s rfl) rfl rfl (hI.wf.r rfl) rfl rfl ?_
      refine ev_loc f_X4_put (nx := 16) rfl rfl rfl rfl ?_
      refine ev_loc f_X4_put (nx := 17) rfl rfl rfl rfl ?_
      refine ev_iastT f_X4_put (nx := 18) rfl (hI.wf.s rfl) l3 (by decide) u5 (by decide) rfl (hI.astO (hI.wf.s rfl) (Or.inl (by decide)) (by decide +kernel)) (hX.upI (t_inA_ok rfl)) (fun g6 e6 hI hX => ?_)
      refine ev_loc f_X4_put (nx := 19) rfl rfl rfl rfl ?_
      refine ev_getR f_X4_put (nx := 22) rfl (hI.wf.s rfl) rfl rfl (hI.wf.r rfl) rfl rfl ?_
      refine ev_loc f_X4_put (nx := 23) rfl rfl rfl rfl ?_
      refine ev_loc f_X4_put (nx := 24) rfl rfl rfl rfl ?_
      refine ev_iastT f_X4_put (nx := 25) rfl (hI.wf.s rfl) l3 (by decide) u5 (by decide) rfl (hI.astO (hI.wf.s rfl) (Or.inl (by decide)) (by decide +kernel)) (hX.upI (t_inA_ok rfl)) (fun g7 e7 hI hX => ?_)
      refine ev_loc f_X4_put (nx := 26) rfl rfl rfl rfl ?_
      refine ev_getR f_X4_put (nx := 29) rfl (hI.wf.s rfl) rfl rfl (hI.wf.r rfl) rfl rfl ?_
      refine ev_loc f_X4_put (nx := 30) rfl rfl rfl rfl ?_
      refine ev_loc f_X4_put (nx := 32) rfl rfl rfl rfl ?_
      refine ev_iastT f_X4_put (nx := 33) rfl (hI.wf.s rfl) l3 (by decide) u5 (by decide) rfl (hI.astO (hI.wf.s rfl) (Or.inl (by decide)) (by decide +kernel)) (hX.upI (t_inA_ok rfl)) (fun g8 e8 hI hX => ?_)
      refine ev_loc f_X4_put (nx := 34) rfl rfl rfl rfl ?_
      refine ev_getR f_X4_put (nx := 37) rfl (hI.wf.s rfl) rfl rfl (hI.wf.r rfl) rfl rfl ?_
      refine ev_loc f_X4_put (nx := 38) rfl rfl rfl rfl ?_
      refine ev_loc f_X4_put (nx := 40) rfl rfl rfl rfl ?_
      refine ev_iastT f_X4_put (nx := 41) rfl (hI.wf.s rfl) l3 (by decide) u5 (by decide) rfl (hI.astO (hI.wf.s rfl) (Or.inl (by decide)) (by decide +kernel)) (hX.upI (t_inA_ok rfl)) (fun g9 e9 hI hX => ?_)
      refine ev_loc f_X4_put (nx := 42) rfl rfl rfl rfl ?_
      refine ev_getR f_X4_put (nx := 45) rfl (hI.wf.s rfl) rfl rfl (hI.wf.r rfl) rfl rfl ?_
      refine ev_loc f_X4_put (nx := 46) rfl rfl rfl rfl ?_
      refine ev_loc f_X4_put (nx := 48) rfl rfl rfl rfl ?_
      refine ev_zastE f_X4_put (nx := 49) rfl (hI.wf.s rfl) l3 (by decide) u5 (by decide) rfl (fun x _ _ => (hI.astO (hI.wf.s rfl) (Or.inl (by decide)) (by decide +kernel))) (fun x => hX.upI (t_inA_ok rfl)) (fun g10 x10 e10 ex10 hI hX => ?_)
      exact ev_ret f_X4_put rfl rfl rfl ⟨_, _, _, rfl, hI, hX, ⟨rfl, (show ((0 ≤ ar1.toInt ∧ ar1.toInt ≤ 5) → (∀ j : Nat, g10 36 j = if j = ar1.toNatClampNeg then ar2 else gi 36 j) ∧ (∀ j : Nat, g10 37 j = if j = ar1.toNatClampNeg then ar3 else gi 37 j) ∧ (∀ j : Nat, g10 38 j = if j = ar1.toNatClampNeg then ar4 else gi 38 j) ∧ (∀ j : Nat, g10 39 j = if j = ar1.toNatClampNeg then ar5 else gi 39 j) ∧ (∀ j : Nat, g10 40 j = if j = ar1.toNatClampNeg then (ar6 &&& 1) else gi 40 j)) from (fun h => ⟨(fun j => (by rw [e10, x_up2_off (Or.inl (by decide)), e9, x_up2_off (Or.inl (by decide)), e8, x_up2_off (Or.inl (by decide)), e7, x_up2_off (Or.inl (by decide)), e6]; by_cases hj : j = ar1.toNatClampNeg; (rw [if_pos hj, hj, x_up2_at]); (rw [if_neg hj, x_up2_off (Or.inr hj)]))), (fun j => (by rw [e10, x_up2_off (Or.inl (by decide)), e9, x_up2_off (Or.inl (by decide)), e8, x_up2_off (Or.inl (by decide)), e7]; by_cases hj : j = ar1.toNatClampNeg; (rw [if_pos hj, hj, x_up2_at]); (rw [if_neg hj, x_up2_off (Or.inr hj), e6, x_up2_off (Or.inl (by decide))]))), (fun j => (by rw [e10, x_up2_off (Or.inl (by decide)), e9, x_up2_off (Or.inl (by decide)), e8]; by_cases hj : j = ar1.toNatClampNeg; (rw [if_pos hj, hj, x_up2_at]); (rw [if_neg hj, x_up2_off (Or.inr hj), e7, x_up2_off (Or.inl (by decide)), e6, x_up2_off (Or.inl (by decide))]))), (fun j => (by rw [e10, x_up2_off (Or.inl (by decide)), e9]; by_cases hj : j = ar1.toNatClampNeg; (rw [if_pos hj, hj, x_up2_at]); (rw [if_neg hj, x_up2_off (Or.inr hj), e8, x_up2_off (Or.inl (by decide)), e7, x_up2_off (Or.inl (by decide)), e6, x_up2_off (Or.inl (by decide))]))), (fun j => (by rw [e10]; by_cases hj : j = ar1.toNatClampNeg; (rw [if_pos hj, hj, x_up2_at]; exact ex10); (rw [if_neg hj, x_up2_off (Or.inr hj), e9, x_up2_off (Or.inl (by decide)), e8, x_up2_off (Or.inl (by decide)), e7, x_up2_off (Or.inl (by decide)), e6, x_up2_off (Or.inl (by decide))])))⟩))⟩⟩
    · have l11 : 6 ≤ ar1.toInt := t_lel (t_nlt h4) (by decide : (6:Int) ≤ (6:Int32).toInt)
      exact ev_ret f_X4_put rfl rfl rfl ⟨_, _, _, rfl, hI, hX, ⟨rfl, (show ((0 ≤ ar1.toInt ∧ ar1.toInt ≤ 5) → (∀ j : Nat, gi 36 j = if j = ar1.toNatClampNeg then ar2 else gi 36 j) ∧ (∀ j : Nat, gi 37 j = if j = ar1.toNatClampNeg then ar3 else gi 37 j) ∧ (∀ j : Nat, gi 38 j = if j = ar1.toNatClampNeg then ar4 else gi 38 j) ∧ (∀ j : Nat, gi 39 j = if j = ar1.toNatClampNeg then ar5 else gi 39 j) ∧ (∀ j : Nat, gi 40 j = if j = ar1.toNatClampNeg then (ar6 &&& 1) else gi 40 j)) from (fun h => absurd h (by omega)))⟩⟩
noncomputable def wl_d_join_35 : List (Nat × Nat) := [(35, 0), (36, 9999), (37, 9999), (38, 9999), (39, 9999), (40, 9999)]
noncomputable def Q_d_join_35 (gi : Nat → Nat → Int32) (gl : Nat → Nat → Int64) (gr : Nat → Nat → Value) (ar1 : Nat) (ar2 : Int32) (ar3 : Int32) : (Nat → Nat → Int32) → (Nat → Nat → Int64) → (Nat → Nat → Value) → Prop := fun (gi2 : Nat → Nat → Int32) (gl2 : Nat → Nat → Int64) (gr2 : Nat → Nat → Value) => (∀ n t w l : Nat, (gi 35 0).toInt = n → n ≤ 5 → 0 ≤ ar2.toInt → ar2.toInt < (gi ar1 0).toInt → s_LR ar1 → s_LR t → s_LR w → s_LR l → gr ar1 3 = .ref t → gr ar1 4 = .ref w → gr ar1 5 = .ref l → (∀ j : Nat, j < n → gi 40 j &&& 1 = gi 40 j) → (gi2 35 0).toInt = n + 1 ∧ ∀ j, j ≤ n → gi2 36 j = s_is (gi 36) (ar2) (s_pk (fun j => (gi 37 j).toInt) ar3.toInt n) j ∧ gi2 37 j = s_is (gi 37) (ar3) (s_pk (fun j => (gi 37 j).toInt) ar3.toInt n) j ∧ gi2 38 j = s_is (gi 38) (gi t ar2.toNatClampNeg) (s_pk (fun j => (gi 37 j).toInt) ar3.toInt n) j ∧ gi2 39 j = s_is (gi 39) (gi w ar2.toNatClampNeg) (s_pk (fun j => (gi 37 j).toInt) ar3.toInt n) j ∧ gi2 40 j = s_is (gi 40) (gi l ar2.toNatClampNeg &&& 1) (s_pk (fun j => (gi 37 j).toInt) ar3.toInt n) j)
theorem c_d_join_35 {X : x_Ext} {d : Nat} {sh : List (Nat ⊕ (Nat × Nat))} {gi : Nat → Nat → Int32} {gl : Nat → Nat → Int64} {gr : Nat → Nat → Value} (hI : t_I sh gi gr) (ar1 : Nat) (p_a1 : t_Ln sh gr ar1) (ar2 : Int32) (ar3 : Int32) : x_Me X (d + 2) n_X4_join [.ref 35, .ref ar1, .int ar2, .int ar3] (sh, gi, gl, gr) (t_PN wl_d_join_35 sh gi gl gr (Q_d_join_35 gi gl gr ar1 ar2 ar3)) := by
  have hX : t_X wl_d_join_35 sh gi gl gr gi gl gr := t_X.rf
  refine me_i f_X4_join (hI.wf.s rfl) rfl rfl rfl ?_
  obtain ⟨l1, u1⟩ := hI.b (hI.wf.s (k := 35) rfl) (t_bdK rfl : t_bd 3 0 = some (0, 6))
  refine ev_loc f_X4_join (nx := 1) rfl rfl rfl rfl ?_
  refine ev_gvI f_X4_join (nx := 4) (w := (gi 35 0)) rfl (hI.wf.s rfl) rfl rfl rfl rfl ?_
  refine ev_bp f_X4_join (nx := 6) (v := 6) rfl (by decide) rfl ?_
  refine ev_if f_X4_join (t1 := 21) (t2 := 9) rfl rfl rfl (fun h2 => ?_) (fun h2 => ?_)
  · have l3 : 6 ≤ (gi 35 0).toInt := t_lel h2 (by decide : (6:Int) ≤ (6:Int32).toInt)
    exact ev_ret f_X4_join rfl rfl rfl ⟨_, _, _, rfl, hI, hX, ⟨rfl, (show (∀ n t w l : Nat, (gi 35 0).toInt = n → n ≤ 5 → 0 ≤ ar2.toInt → ar2.toInt < (gi ar1 0).toInt → s_LR ar1 → s_LR t → s_LR w → s_LR l → gr ar1 3 = .ref t → gr ar1 4 = .ref w → gr ar1 5 = .ref l → (∀ j : Nat, j < n → gi 40 j &&& 1 = gi 40 j) → (gi 35 0).toInt = n + 1 ∧ ∀ j, j ≤ n → gi 36 j = s_is (gi 36) (ar2) (s_pk (fun j => (gi 37 j).toInt) ar3.toInt n) j ∧ gi 37 j = s_is (gi 37) (ar3) (s_pk (fun j => (gi 37 j).toInt) ar3.toInt n) j ∧ gi 38 j = s_is (gi 38) (gi t ar2.toNatClampNeg) (s_pk (fun j => (gi 37 j).toInt) ar3.toInt n) j ∧ gi 39 j = s_is (gi 39) (gi w ar2.toNatClampNeg) (s_pk (fun j => (gi 37 j).toInt) ar3.toInt n) j ∧ gi 40 j = s_is (gi 40) (gi l ar2.toNatClampNeg &&& 1) (s_pk (fun j => (gi 37 j).toInt) ar3.toInt n) j) from (fun n t w l hn hn5 ha hb r1 r2 r3 r4 k1 k2 k3 hz => (by exfalso; omega)))⟩⟩
  · have u4 : (gi 35 0).toInt ≤ 5 := t_ltu (t_nle h2) (by decide : (6:Int32).toInt ≤ (6:Int)) rfl
    refine ev_loc f_X4_join (nx := 10) rfl rfl rfl rfl ?_
    refine ev_if f_X4_join (t1 := 21) (t2 := 13) rfl rfl rfl (fun h5 => ?_) (fun h5 => ?_)
    · have u6 : ar2.toInt ≤ (-1) := t_ltu h5 (by decide : (0:Int32).toInt ≤ (0:Int)) rfl
      exact ev_ret f_X4_join rfl rfl rfl ⟨_, _, _, rfl, hI, hX, ⟨rfl, (show (∀ n t w l : Nat, (gi 35 0).toInt = n → n ≤ 5 → 0 ≤ ar2.toInt → ar2.toInt < (gi ar1 0).toInt → s_LR ar1 → s_LR t → s_LR w → s_LR l → gr ar1 3 = .ref t → gr ar1 4 = .ref w → gr ar1 5 = .ref l → (∀ j : Nat, j < n → gi 40 j &&& 1 = gi 40 j) → (gi 35 0).toInt = n + 1 ∧ ∀ j, j ≤ n → gi 36 j = s_is (gi 36) (ar2) (s_pk (fun j => (gi 37 j).toInt) ar3.toInt n) j ∧ gi 37 j = s_is (gi 37) (ar3) (s_pk (fun j => (gi 37 j).toInt) ar3.toInt n) j ∧ gi 38 j = s_is (gi 38) (gi t ar2.toNatClampNeg) (s_pk (fun j => (gi 37 j).toInt) ar3.toInt n) j ∧ gi 39 j = s_is (gi 39) (gi w ar2.toNatClampNeg) (s_pk (fun j => (gi 37 j).toInt) ar3.toInt n) j ∧ gi 40 j = s_is (gi 40) (gi l ar2.toNatClampNeg &&& 1) (s_pk (fun j => (gi 37 j).toInt) ar3.toInt n) j) from (fun n t w l hn hn5 ha hb r1 r2 r3 r4 k1 k2 k3 hz => (by exfalso; omega)))⟩⟩
    · have l7 : 0 ≤ ar2.toInt := t_lel (t_nlt h5) (by decide : (0:Int) ≤ (0:Int32).toInt)
      refine ev_loc f_X4_join (nx := 14) rfl rfl rfl rfl ?_
      refine ev_loc f_X4_join (nx := 15) rfl rfl rfl rfl ?_
      refine ev_getI f_X4_join (nx := 18) rfl p_a1.1 rfl rfl rfl ?_
      obtain ⟨l8, u8⟩ := hI.b p_a1.1 (t_bdK rfl : t_bd 3 0 = some (0, 6))
      refine ev_if f_X4_join (t1 := 22) (t2 := 21) rfl rfl rfl (fun h9 => ?_) (fun h9 => ?_)
      · have r10 : ar2.toInt < (gi ar1 0).toInt := Int32.lt_iff_toInt_lt.mp h9
        have u11 : ar2.toInt ≤ 5 := t_ltu h9 u8 rfl
        have l12 : 1 ≤ (gi ar1 0).toInt := t_ltl h9 l7 rfl
        refine ev_loc f_X4_join (nx := 23) rfl rfl rfl rfl ?_
        refine ev_gvI f_X4_join (nx := 26) (w := (gi 35 0)) rfl (hI.wf.s rfl) rfl rfl rfl rfl ?_
        refine ev_loc f_X4_join (nx := 28) (lo' := [(4, .int (gi 35 0)), (0, .ref 35), (1, .ref ar1), (2, .int ar2), (3, .int ar3)]) rfl rfl rfl rfl ?_
        refine ev_loc f_X4_join (nx := 29) rfl rfl rfl rfl ?_
        refine ev_alu f_X4_join (nx := 30) rfl rfl rfl rfl ?_
        refine ev_gvI f_X4_join (nx := 33) (w := (gi 35 0)) rfl (hI.wf.s rfl) rfl rfl rfl rfl ?_
        refine ev_ic f_X4_join (nx := 34) (v := 1) rfl (by decide) rfl ?_
        refine ev_addC f_X4_join (nx := 35) (c := 1) (l := 1) (u := 6) rfl (by decide) l1 u4 rfl rfl (by decide) (by decide) rfl (fun z13 e13 l13 u13 => ?_)
        refine ev_putIT f_X4_join (nx := 38) rfl (hI.wf.s rfl) rfl rfl rfl (hI.putB (hI.wf.s rfl) rfl rfl l13 (by decide) u13 (by decide)) (hX.upI rfl) (fun g14 e14 hI hX => ?_)
        have L15 : ∀ (m15 : Nat) (gi15 : Nat → Nat → Int32) (gl15 : Nat → Nat → Int64) (gr15 : Nat → Nat → Value) (y15_4 : Int32), t_I sh gi15 gr15 → t_X wl_d_join_35 sh gi gl gr gi15 gl15 gr15 → t_Ln sh gr15 ar1 → 0 ≤ y15_4.toInt → y15_4.toInt ≤ 5 → gi15 35 0 = z13 → (∀ n : Nat, (gi 35 0).toInt = n → n ≤ 5 → (∀ j : Nat, j < n → gi 40 j &&& 1 = gi 40 j) → s_J (gi 36) (gi15 36) (fun j => (gi 37 j).toInt) n ar3.toInt y15_4.toNatClampNeg ∧ s_J (gi 37) (gi15 37) (fun j => (gi 37 j).toInt) n ar3.toInt y15_4.toNatClampNeg ∧ s_J (gi 38) (gi15 38) (fun j => (gi 37 j).toInt) n ar3.toInt y15_4.toNatClampNeg ∧ s_J (gi 39) (gi15 39) (fun j => (gi 37 j).toInt) n ar3.toInt y15_4.toNatClampNeg ∧ s_J (gi 40) (gi15 40) (fun j => (gi 37 j).toInt) n ar3.toInt y15_4.toNatClampNeg ∧ (gi15 35 0).toInt = n + 1) → (y15_4.toInt - 0).toNat = m15 → x_Ev X (d + 2) n_X4_join 38 [(4, .int y15_4), (0, .ref 35), (1, .ref ar1), (2, .int ar2), (3, .int ar3)] [] (sh, gi15, gl15, gr15) (t_PN wl_d_join_35 sh gi gl gr (Q_d_join_35 gi gl gr ar1 ar2 ar3)) := by
          intro m15
          induction m15 using Nat.strongRecOn with
          | _ m15 ih15 =>
          intro gi15 gl15 gr15 y15_4 hI hX p_a1 l15_4 u15_4 c15_0 j15_0 hm15
          refine ev_loc f_X4_join (nx := 40) rfl rfl rfl rfl ?_
          have hXh := hX
          refine ev_if f_X4_join (t1 := 113) (t2 := 43) rfl rfl rfl (fun h16 => ?_) (fun h16 => ?_)
          · have u17 : y15_4.toInt ≤ 0 := t_leu h16 (by decide : (0:Int32).toInt ≤ (0:Int))
            refine ev_loc f_X4_join (nx := 114) rfl rfl rfl rfl ?_
            refine ev_loc f_X4_join (nx := 116) rfl rfl rfl rfl ?_
            refine ev_loc f_X4_join (nx := 117) rfl rfl rfl rfl ?_
            refine ev_loc f_X4_join (nx := 118) rfl rfl rfl rfl ?_
            refine ev_loc f_X4_join (nx := 119) rfl rfl rfl rfl ?_
            obtain ⟨a18, e18, s18, o18⟩ := p_a1.2.2.2.1
            refine ev_getR f_X4_join (nx := 122) rfl p_a1.1 rfl rfl e18 rfl rfl ?_
            refine ev_loc f_X4_join (nx := 123) rfl rfl rfl rfl ?_
            refine ev_ialdT f_X4_join (nx := 124) rfl s18 l7 (by decide) u11 (by decide) rfl (fun w19 e19 => ?_)
            refine ev_loc f_X4_join (nx := 125) rfl rfl rfl rfl ?_
            obtain ⟨a20, e20, s20, o20⟩ := p_a1.2.2.2.2.1
            refine ev_getR f_X4_join (nx := 128) rfl p_a1.1 rfl rfl e20 rfl rfl ?_
            refine ev_loc f_X4_join (nx := 129) rfl rfl rfl rfl ?_
            refine ev_ialdT f_X4_join (nx := 130) rfl s20 l7 (by decide) u11 (by decide) rfl (fun w21 e21 => ?_)
            refine ev_loc f_X4_join (nx := 131) rfl rfl rfl rfl ?_
            obtain ⟨a22, e22, s22, o22⟩ := p_a1.2.2.2.2.2
            refine ev_getR f_X4_join (nx := 134) rfl p_a1.1 rfl rfl e22 rfl rfl ?_
            refine ev_loc f_X4_join (nx := 135) rfl rfl rfl rfl ?_
            refine ev_baldT f_X4_join (nx := 136) rfl s22 rfl l7 (by decide) u11 (by decide) rfl (fun w23 e23 => ?_)
            refine ev_qN f_X4_join (nx := 139) (r := []) rfl rfl rfl rfl rfl rfl rfl (c_d_put_35 hI (y15_4) (ar2) (ar3) (w19) (w21) (w23)) rfl hX rfl (fun gi24 gl24 gr24 hI hX hC24 q24 => ?_)
            have q24 : ((0 ≤ y15_4.toInt ∧ y15_4.toInt ≤ 5) → (∀ j : Nat, gi24 36 j = if j = y15_4.toNatClampNeg then ar2 else gi15 36 j) ∧ (∀ j : Nat, gi24 37 j = if j = y15_4.toNatClampNeg then ar3 else gi15 37 j) ∧ (∀ j : Nat, gi24 38 j = if j = y15_4.toNatClampNeg then w19 else gi15 38 j) ∧ (∀ j : Nat, gi24 39 j = if j = y15_4.toNatClampNeg then w21 else gi15 39 j) ∧ (∀ j : Nat, gi24 40 j = if j = y15_4.toNatClampNeg then (w23 &&& 1) else gi15 40 j)) := q24
            replace p_a1 := p_a1.ext hC24.2
            exact ev_ret f_X4_join rfl rfl rfl ⟨_, _, _, rfl, hI, hX, ⟨rfl, (show (∀ n t w l : Nat, (gi 35 0).toInt = n → n ≤ 5 → 0 ≤ ar2.toInt → ar2.toInt < (gi ar1 0).toInt → s_LR ar1 → s_LR t → s_LR w → s_LR l → gr ar1 3 = .ref t → gr ar1 4 = .ref w → gr ar1 5 = .ref l → (∀ j : Nat, j < n → gi 40 j &&& 1 = gi 40 j) → (gi24 35 0).toInt = n + 1 ∧ ∀ j, j ≤ n → gi24 36 j = s_is (gi 36) (ar2) (s_pk (fun j => (gi 37 j).toInt) ar3.toInt n) j ∧ gi24 37 j = s_is (gi 37) (ar3) (s_pk (fun j => (gi 37 j).toInt) ar3.toInt n) j ∧ gi24 38 j = s_is (gi 38) (gi t ar2.toNatClampNeg) (s_pk (fun j => (gi 37 j).toInt) ar3.toInt n) j ∧ gi24 39 j = s_is (gi 39) (gi w ar2.toNatClampNeg) (s_pk (fun j => (gi 37 j).toInt) ar3.toInt n) j ∧ gi24 40 j = s_is (gi 40) (gi l ar2.toNatClampNeg &&& 1) (s_pk (fun j => (gi 37 j).toInt) ar3.toInt n) j) from (fun n t w l hn hn5 ha hb r1 r2 r3 r4 k1 k2 k3 hz => (by
                                                            obtain ⟨h1, h2, h3, h4, h5, hcn⟩ := j15_0 n hn hn5 hz
                                                            obtain ⟨q1, q2, q3, q4, q5⟩ := q24 ⟨by omega, by omega⟩
                                                            have hc0 : gi24 35 0 = gi15 35 0 := (hC24.1 35 0 rfl).1
                                                            have hK := t_nd_fr hXh rfl
                                                            have hb3 : a18 = t := Value.ref.inj ((e18).symm.trans ((congrFun (hK ar1 r1).2.2 3).trans k1))
                                                            subst hb3
                                                            have hb4 : a20 = w := Value.ref.inj ((e20).symm.trans ((congrFun (hK ar1 r1).2.2 4).trans k2))
                                                            subst hb4
                                                            have hb5 : a22 = l := Value.ref.inj ((e22).symm.trans ((congrFun (hK ar1 r1).2.2 5).trans k3))
                                                            subst hb5
                                                            have hx0 : w19 = gi a18 ar2.toNatClampNeg := by rw [e19, (hK _ r2).1]
                                                            have hx1 : w21 = gi a20 ar2.toNatClampNeg := by rw [e21, (hK _ r3).1]
                                                            have hx2 : w23 = gi a22 ar2.toNatClampNeg := by rw [e23, (hK _ r4).1]
                                                            have hs : y15_4.toNatClampNeg = 0 ∨ (gi 37 (y15_4.toNatClampNeg - 1)).toInt ≤ ar3.toInt := Or.inl (s_c00 (by omega) (by omega))
                                                            rw [hx0] at q3
                                                            rw [hx1] at q4
                                                            rw [hx2] at q5
                                                            exact ⟨by rw [hc0]; exact hcn, fun j hj => ⟨s_J_e h1 hs q1 j hj, s_J_e h2 hs q2 j hj, s_J_e h3 hs q3 j hj, s_J_e h4 hs q4 j hj, s_J_e h5 hs q5 j hj⟩⟩)))⟩⟩
          · have l25 : 1 ≤ y15_4.toInt := t_ltl (t_nle h16) (by decide : (0:Int) ≤ (0:Int32).toInt) rfl
            refine ev_loc f_X4_join (nx := 44) rfl rfl rfl rfl ?_
            refine ev_getR f_X4_join (nx := 47) rfl (hI.wf.s rfl) rfl rfl (hI.wf.r rfl) rfl rfl ?_
            refine ev_loc f_X4_join (nx := 49) rfl rfl rfl rfl ?_
            refine ev_ic f_X4_join (nx := 50) (v := 1) rfl (by decide) rfl ?_
            refine ev_subC f_X4_join (nx := 51) (c := 1) (l := 0) (u := 4) rfl (by decide) l25 u15_4 rfl rfl (by decide) (by decide) rfl (fun z26 e26 l26 u26 => ?_)
            refine ev_ialdT f_X4_join (nx := 52) rfl (hI.wf.s rfl) l26 (by decide) u26 (by decide) rfl (fun w27 e27 => ?_)
            refine ev_loc f_X4_join (nx := 53) rfl rfl rfl rfl ?_
            refine ev_if f_X4_join (t1 := 113) (t2 := 56) rfl rfl rfl (fun h28 => ?_) (fun h28 => ?_)
            · have r29 : w27.toInt ≤ ar3.toInt := Int32.le_iff_toInt_le.mp h28
              refine ev_loc f_X4_join (nx := 114) rfl rfl rfl rfl ?_
              refine ev_loc f_X4_join (nx := 116) rfl rfl rfl rfl ?_
              refine ev_loc f_X4_join (nx := 117) rfl rfl rfl rfl ?_
              refine ev_loc f_X4_join (nx := 118) rfl rfl rfl rfl ?_
              refine ev_loc f_X4_join (nx := 119) rfl rfl rfl rfl ?_
              obtain ⟨a30, e30, s30, o30⟩ := p_a1.2.2.2.1
              refine ev_getR f_X4_join (nx := 122) rfl p_a1.1 rfl rfl e30 rfl rfl ?_
              refine ev_loc f_X4_join (nx := 123) rfl rfl rfl rfl ?_
              refine ev_ialdT f_X4_join (nx := 124) rfl s30 l7 (by decide) u11 (by decide) rfl (fun w31 e31 => ?_)
              refine ev_loc f_X4_join (nx := 125) rfl rfl rfl rfl ?_
              obtain ⟨a32, e32, s32, o32⟩ := p_a1.2.2.2.2.1
              refine ev_getR f_X4_join (nx := 128) rfl p_a1.1 rfl rfl e32 rfl rfl ?_
              refine ev_loc f_X4_join (nx := 129) rfl rfl rfl rfl ?_
              refine ev_ialdT f_X4_join (nx := 130) rfl s32 l7 (by decide) u11 (by decide) rfl (fun w33 e33 => ?_)
              refine ev_loc f_X4_join (nx := 131) rfl rfl rfl rfl ?_
              obtain ⟨a34, e34, s34, o34⟩ := p_a1.2.2.2.2.2
              refine ev_getR f_X4_join (nx := 134) rfl p_a1.1 rfl rfl e34 rfl rfl ?_
              refine ev_loc f_X4_join (nx := 135) rfl rfl rfl rfl ?_
              refine ev_baldT f_X4_join (nx := 136) rfl s34 rfl l7 (by decide) u11 (by decide) rfl (fun w35 e35 => ?_)
              refine ev_qN f_X4_join (nx := 139) (r := []) rfl rfl rfl rfl rfl rfl rfl (c_d_put_35 hI (y15_4) (ar2) (ar3) (w31) (w33) (w35)) rfl hX rfl (fun gi36 gl36 gr36 hI hX hC36 q36 => ?_)
              have q36 : ((0 ≤ y15_4.toInt ∧ y15_4.toInt ≤ 5) → (∀ j : Nat, gi36 36 j = if j = y15_4.toNatClampNeg then ar2 else gi15 36 j) ∧ (∀ j : Nat, gi36 37 j = if j = y15_4.toNatClampNeg then ar3 else gi15 37 j) ∧ (∀ j : Nat, gi36 38 j = if j = y15_4.toNatClampNeg then w31 else gi15 38 j) ∧ (∀ j : Nat, gi36 39 j = if j = y15_4.toNatClampNeg then w33 else gi15 39 j) ∧ (∀ j : Nat, gi36 40 j = if j = y15_4.toNatClampNeg then (w35 &&& 1) else gi15 40 j)) := q36
              replace p_a1 := p_a1.ext hC36.2
              exact ev_ret f_X4_join rfl rfl rfl ⟨_, _, _, rfl, hI, hX, ⟨rfl, (show (∀ n t w l : Nat, (gi 35 0).toInt = n → n ≤ 5 → 0 ≤ ar2.toInt → ar2.toInt < (gi ar1 0).toInt → s_LR ar1 → s_LR t → s_LR w → s_LR l → gr ar1 3 = .ref t → gr ar1 4 = .ref w → gr ar1 5 = .ref l → (∀ j : Nat, j < n → gi 40 j &&& 1 = gi 40 j) → (gi36 35 0).toInt = n + 1 ∧ ∀ j, j ≤ n → gi36 36 j = s_is (gi 36) (ar2) (s_pk (fun j => (gi 37 j).toInt) ar3.toInt n) j ∧ gi36 37 j = s_is (gi 37) (ar3) (s_pk (fun j => (gi 37 j).toInt) ar3.toInt n) j ∧ gi36 38 j = s_is (gi 38) (gi t ar2.toNatClampNeg) (s_pk (fun j => (gi 37 j).toInt) ar3.toInt n) j ∧ gi36 39 j = s_is (gi 39) (gi w ar2.toNatClampNeg) (s_pk (fun j => (gi 37 j).toInt) ar3.toInt n) j ∧ gi36 40 j = s_is (gi 40) (gi l ar2.toNatClampNeg &&& 1) (s_pk (fun j => (gi 37 j).toInt) ar3.toInt n) j) from (fun n t w l hn hn5 ha hb r1 r2 r3 r4 k1 k2 k3 hz => (by
                                                            obtain ⟨h1, h2, h3, h4, h5, hcn⟩ := j15_0 n hn hn5 hz
                                                            obtain ⟨q1, q2, q3, q4, q5⟩ := q36 ⟨by omega, by omega⟩
                                                            have hc0 : gi36 35 0 = gi15 35 0 := (hC36.1 35 0 rfl).1
                                                            have hK := t_nd_fr hXh rfl
                                                            have hb3 : a30 = t := Value.ref.inj ((e30).symm.trans ((congrFun (hK ar1 r1).2.2 3).trans k1))
                                                            subst hb3
                                                            have hb4 : a32 = w := Value.ref.inj ((e32).symm.trans ((congrFun (hK ar1 r1).2.2 4).trans k2))
                                                            subst hb4
                                                            have hb5 : a34 = l := Value.ref.inj ((e34).symm.trans ((congrFun (hK ar1 r1).2.2 5).trans k3))
                                                            subst hb5
                                                            have hx0 : w31 = gi a30 ar2.toNatClampNeg := by rw [e31, (hK _ r2).1]
                                                            have hx1 : w33 = gi a32 ar2.toNatClampNeg := by rw [e33, (hK _ r3).1]
                                                            have hx2 : w35 = gi a34 ar2.toNatClampNeg := by rw [e35, (hK _ r4).1]
                                                            have hp : 0 < y15_4.toNatClampNeg := s_c0 (by omega)
                                                            have hv0 : w27 = gi15 37 (y15_4.toNatClampNeg - 1) := by rw [e27, s_cm l26 e26]
                                                            have hs : y15_4.toNatClampNeg = 0 ∨ (gi 37 (y15_4.toNatClampNeg - 1)).toInt ≤ ar3.toInt := Or.inr (by rw [← s_J_at h2 hp, ← hv0]; omega)
                                                            rw [hx0] at q3
                                                            rw [hx1] at q4
                                                            rw [hx2] at q5
                                                            exact ⟨by rw [hc0]; exact hcn, fun j hj => ⟨s_J_e h1 hs q1 j hj, s_J_e h2 hs q2 j hj, s_J_e h3 hs q3 j hj, s_J_e h4 hs q4 j hj, s_J_e h5 hs q5 j hj⟩⟩)))⟩⟩
            · have r37 : ar3.toInt < w27.toInt := Int32.lt_iff_toInt_lt.mp (t_nle h28)
              have u38 : ar3.toInt ≤ 2147483646 := t_ltu (t_nle h28) (t_hi w27) rfl
              have l39 : (-2147483647) ≤ w27.toInt := t_ltl (t_nle h28) (t_lo ar3) rfl
              refine ev_loc f_X4_join (nx := 57) rfl rfl rfl rfl ?_
              refine ev_loc f_X4_join (nx := 59) rfl rfl rfl rfl ?_
              refine ev_loc f_X4_join (nx := 60) rfl rfl rfl rfl ?_
              refine ev_getR f_X4_join (nx := 63) rfl (hI.wf.s rfl) rfl rfl (hI.wf.r rfl) rfl rfl ?_
              refine ev_loc f_X4_join (nx := 65) rfl rfl rfl rfl ?_
              refine ev_ic f_X4_join (nx := 66) (v := 1) rfl (by decide) rfl ?_
              refine ev_subC f_X4_join (nx := 67) (c := 1) (l := 0) (u := 4) rfl (by decide) l25 u15_4 rfl rfl (by decide) (by decide) rfl (fun z40 e40 l40 u40 => ?_)
              refine ev_ialdT f_X4_join (nx := 68) rfl (hI.wf.s rfl) l40 (by decide) u40 (by decide) rfl (fun w41 e41 => ?_)
              refine ev_loc f_X4_join (nx := 69) rfl rfl rfl rfl ?_
              refine ev_getR f_X4_join (nx := 72) rfl (hI.wf.s rfl) rfl rfl (hI.wf.r rfl) rfl rfl ?_
              refine ev_loc f_X4_join (nx := 74) rfl rfl rfl rfl ?_
              refine ev_ic f_X4_join (nx := 75) (v := 1) rfl (by decide) rfl ?_
              refine ev_subC f_X4_join (nx := 76) (c := 1) (l := 0) (u := 4) rfl (by decide) l25 u15_4 rfl rfl (by decide) (by decide) rfl (fun z42 e42 l42 u42 => ?_)
              refine ev_ialdT f_X4_join (nx := 77) rfl (hI.wf.s rfl) l42 (by decide) u42 (by decide) rfl (fun w43 e43 => ?_)
              refine ev_loc f_X4_join (nx := 78) rfl rfl rfl rfl ?_
              refine ev_getR f_X4_join (nx := 81) rfl (hI.wf.s rfl) rfl rfl (hI.wf.r rfl) rfl rfl ?_
              refine ev_loc f_X4_join (nx := 83) rfl rfl rfl rfl ?_
              refine ev_ic f_X4_join (nx := 84) (v := 1) rfl (by decide) rfl ?_
              refine ev_subC f_X4_join (nx := 85) (c := 1) (l := 0) (u := 4) rfl (by decide) l25 u15_4 rfl rfl (by decide) (by decide) rfl (fun z44 e44 l44 u44 => ?_)
              refine ev_ialdT f_X4_join (nx := 86) rfl (hI.wf.s rfl) l44 (by decide) u44 (by decide) rfl (fun w45 e45 => ?_)
              refine ev_loc f_X4_join (nx := 87) rfl rfl rfl rfl ?_
              refine ev_getR f_X4_join (nx := 90) rfl (hI.wf.s rfl) rfl rfl (hI.wf.r rfl) rfl rfl ?_
              refine ev_loc f_X4_join (nx := 92) rfl rfl rfl rfl ?_
              refine ev_ic f_X4_join (nx := 93) (v := 1) rfl (by decide) rfl ?_
              refine ev_subC f_X4_join (nx := 94) (c := 1) (l := 0) (u := 4) rfl (by decide) l25 u15_4 rfl rfl (by decide) (by decide) rfl (fun z46 e46 l46 u46 => ?_)
              refine ev_ialdT f_X4_join (nx := 95) rfl (hI.wf.s rfl) l46 (by decide) u46 (by decide) rfl (fun w47 e47 => ?_)
              refine ev_loc f_X4_join (nx := 96) rfl rfl rfl rfl ?_
              refine ev_getR f_X4_join (nx := 99) rfl (hI.wf.s rfl) rfl rfl (hI.wf.r rfl) rfl rfl ?_
              refine ev_loc f_X4_join (nx := 101) rfl rfl rfl rfl ?_
              refine ev_ic f_X4_join (nx := 102) (v := 1) rfl (by decide) rfl ?_
              refine ev_subC f_X4_join (nx := 103) (c := 1) (l := 0) (u := 4) rfl (by decide) l25 u15_4 rfl rfl (by decide) (by decide) rfl (fun z48 e48 l48 u48 => ?_)
              refine ev_baldT f_X4_join (nx := 104) rfl (hI.wf.s rfl) rfl l48 (by decide) u48 (by decide) rfl (fun w49 e49 => ?_)
              refine ev_qN f_X4_join (nx := 107) (r := []) rfl rfl rfl rfl rfl rfl rfl (c_d_put_35 hI (y15_4) (w41) (w43) (w45) (w47) (w49)) rfl hX rfl (fun gi50 gl50 gr50 hI hX hC50 q50 => ?_)
              have q50 : ((0 ≤ y15_4.toInt ∧ y15_4.toInt ≤ 5) → (∀ j : Nat, gi50 36 j = if j = y15_4.toNatClampNeg then w41 else gi15 36 j) ∧ (∀ j : Nat, gi50 37 j = if j = y15_4.toNatClampNeg then w43 else gi15 37 j) ∧ (∀ j : Nat, gi50 38 j = if j = y15_4.toNatClampNeg then w45 else gi15 38 j) ∧ (∀ j : Nat, gi50 39 j = if j = y15_4.toNatClampNeg then w47 else gi15 39 j) ∧ (∀ j : Nat, gi50 40 j = if j = y15_4.toNatClampNeg then (w49 &&& 1) else gi15 40 j)) := q50
              replace p_a1 := p_a1.ext hC50.2
              refine ev_incR f_X4_join (nx := 110) (c := (-1)) (l := 0) (u := 4) rfl rfl (by decide) (by decide) l25 u15_4 rfl rfl (by decide) (by decide) rfl (fun z51 e51 l51 u51 => ?_)
              refine ev_jmp f_X4_join (nx := 38) rfl rfl rfl ?_
              refine ev_sub (lo := [(4, .int z51), (0, .ref 35), (1, .ref ar1), (2, .int ar2), (3, .int ar3)]) rfl (t_sc rfl (t_sc rfl (t_sc rfl (t_sc rfl (t_sc rfl t_sn))))) ?_
              exact ih15 _ (by omega) gi50 gl50 gr50 (z51) hI hX p_a1 l51 (Int.le_trans u51 (by decide : (4:Int) ≤ 5)) ((hC50.1 35 0 rfl).1.trans c15_0) (fun n hn hn5 hz => (by
                                                            obtain ⟨h1, h2, h3, h4, h5, hcn⟩ := j15_0 n hn hn5 hz
                                                            obtain ⟨q1, q2, q3, q4, q5⟩ := q50 ⟨by omega, by omega⟩
                                                            have hp : 0 < y15_4.toNatClampNeg := s_c0 (by omega)
                                                            have hv0 : w27 = gi15 37 (y15_4.toNatClampNeg - 1) := by rw [e27, s_cm l26 e26]
                                                            have hv1 : w41 = gi15 36 (y15_4.toNatClampNeg - 1) := by rw [e41, s_cm l40 e40]
                                                            have hv2 : w43 = gi15 37 (y15_4.toNatClampNeg - 1) := by rw [e43, s_cm l42 e42]
                                                            have hv3 : w45 = gi15 38 (y15_4.toNatClampNeg - 1) := by rw [e45, s_cm l44 e44]
                                                            have hv4 : w47 = gi15 39 (y15_4.toNatClampNeg - 1) := by rw [e47, s_cm l46 e46]
                                                            have hv5 : w49 = gi15 40 (y15_4.toNatClampNeg - 1) := by rw [e49, s_cm l48 e48]
                                                            have hc0 : gi50 35 0 = gi15 35 0 := (hC50.1 35 0 rfl).1
                                                            have hg : ar3.toInt < (gi 37 (y15_4.toNatClampNeg - 1)).toInt := by rw [← s_J_at h2 hp, ← hv0]; omega
                                                            have hv6 : w49 &&& 1 = gi15 40 (y15_4.toNatClampNeg - 1) := by rw [hv5, s_J_at h5 hp]; exact hz _ (by have := h5.1; omega)
                                                            rw [s_cm2 l51 e51]
                                                            exact ⟨s_J_s h1 hp hg q1 hv1, s_J_s h2 hp hg q2 hv2, s_J_s h3 hp hg q3 hv3, s_J_s h4 hp hg q4 hv4, s_J_s h5 hp hg q5 hv6, by rw [hc0]; exact hcn⟩)) rfl
        refine ev_sub (lo := [(4, .int (gi 35 0)), (0, .ref 35), (1, .ref ar1), (2, .int ar2), (3, .int ar3)]) rfl (t_sc rfl (t_sc rfl (t_sc rfl (t_sc rfl (t_sc rfl t_sn))))) ?_
        exact L15 _ g14 gl gr ((gi 35 0)) hI hX p_a1 l1 u4 (by rw [e14]; exact x_up2_at _ _ _ _ : g14 35 0 = z13) (fun n hn hn5 hz => (by
                                                            have cx := t_clamp (i := (gi 35 0)) (by omega)
                                                            have ff52 : (g14 35 0).toInt = z13.toInt := congrArg Int32.toInt (by rw [e14]; exact x_up2_at _ _ _ _ : g14 35 0 = z13)
                                                            rw [show ((gi 35 0)).toNatClampNeg = n from (by omega)]
                                                            exact ⟨s_J_b (fun j _ => by rw [e14, x_up2_off (Or.inl (by decide))]), s_J_b (fun j _ => by rw [e14, x_up2_off (Or.inl (by decide))]), s_J_b (fun j _ => by rw [e14, x_up2_off (Or.inl (by decide))]), s_J_b (fun j _ => by rw [e14, x_up2_off (Or.inl (by decide))]), s_J_b (fun j _ => by rw [e14, x_up2_off (Or.inl (by decide))]), by omega⟩)) rfl
      · have r53 : (gi ar1 0).toInt ≤ ar2.toInt := Int32.le_iff_toInt_le.mp (t_nlt h9)
        exact ev_ret f_X4_join rfl rfl rfl ⟨_, _, _, rfl, hI, hX, ⟨rfl, (show (∀ n t w l : Nat, (gi 35 0).toInt = n → n ≤ 5 → 0 ≤ ar2.toInt → ar2.toInt < (gi ar1 0).toInt → s_LR ar1 → s_LR t → s_LR w → s_LR l → gr ar1 3 = .ref t → gr ar1 4 = .ref w → gr ar1 5 = .ref l → (∀ j : Nat, j < n → gi 40 j &&& 1 = gi 40 j) → (gi 35 0).toInt = n + 1 ∧ ∀ j, j ≤ n → gi 36 j = s_is (gi 36) (ar2) (s_pk (fun j => (gi 37 j).toInt) ar3.toInt n) j ∧ gi 37 j = s_is (gi 37) (ar3) (s_pk (fun j => (gi 37 j).toInt) ar3.toInt n) j ∧ gi 38 j = s_is (gi 38) (gi t ar2.toNatClampNeg) (s_pk (fun j => (gi 37 j).toInt) ar3.toInt n) j ∧ gi 39 j = s_is (gi 39) (gi w ar2.toNatClampNeg) (s_pk (fun j => (gi 37 j).toInt) ar3.toInt n) j ∧ gi 40 j = s_is (gi 40) (gi l ar2.toNatClampNeg &&& 1) (s_pk (fun j => (gi 37 j).toInt) ar3.toInt n) j) from (fun n t w l hn hn5 ha hb r1 r2 r3 r4 k1 k2 k3 hz => (by exfalso; omega)))⟩⟩
noncomputable def wl_d_takeShips : List (Nat × Nat) := [(29, 0), (30, 9999), (31, 9999), (32, 9999), (33, 9999), (34, 9999)]
noncomputable def Q_d_takeShips (gi : Nat → Nat → Int32) (gl : Nat → Nat → Int64) (gr : Nat → Nat → Value) (ar1 : Nat) : (Nat → Nat → Int32) → (Nat → Nat → Int64) → (Nat → Nat → Value) → Prop := fun (gi2 : Nat → Nat → Int32) (gl2 : Nat → Nat → Int64) (gr2 : Nat → Nat → Value) => ∀ D : s_D, t_VL gr ar1 → t_CV gi gl ar1 D → (ar1 = 3 ∨ 102 ≤ ar1) → t_Cb D → (∀ s : Nat, (s : Int) < D 1 → 0 ≤ D (56 + 5 * s) ∧ D (56 + 5 * s) ≤ 1) → (gi2 29 0).toInt = D 1 ∧ s_RO (s_A D) (gi2 30) (D 1).toNat ∧ s_RM (s_A D) (gi2 31) (D 1).toNat ∧ s_RX (s_A D) (fun k => D (54 + 5 * k)) (gi2 32) (D 1).toNat ∧ s_RX (s_A D) (fun k => D (55 + 5 * k)) (gi2 33) (D 1).toNat ∧ s_RX (s_A D) (fun k => D (56 + 5 * k)) (gi2 34) (D 1).toNat
theorem c_d_takeShips {X : x_Ext} {d : Nat} {sh : List (Nat ⊕ (Nat × Nat))} {gi : Nat → Nat → Int32} {gl : Nat → Nat → Int64} {gr : Nat → Nat → Value} (hI : t_I sh gi gr) (ar1 : Nat) (p_a1 : t_Rv sh gr ar1) : x_Me X (d + 3) n_X1_takeShips [.ref 28, .ref ar1, .int 0, .int (-1), .int 0] (sh, gi, gl, gr) (t_PN wl_d_takeShips sh gi gl gr (Q_d_takeShips gi gl gr ar1)) := by
  have hX : t_X wl_d_takeShips sh gi gl gr gi gl gr := t_X.rf
  refine me_i f_X1_takeShips (hI.wf.s rfl) rfl rfl rfl ?_
  obtain ⟨l1, u1⟩ := hI.b (hI.wf.s (k := 29) rfl) (t_bdK rfl : t_bd 3 0 = some (0, 6))
  refine ev_loc f_X1_takeShips (nx := 1) rfl rfl rfl rfl ?_
  refine ev_getR f_X1_takeShips (nx := 4) rfl (hI.wf.s rfl) rfl rfl (hI.wf.r rfl) rfl rfl ?_
  refine ev_inV1 f_X1_takeShips (nx := 7) (lo2 := [(0, .ref 29)]) rfl rfl rfl rfl f_X4_clear (hI.wf.s rfl) rfl rfl rfl rfl rfl ?_
  refine ev_loc f_X4_clear (nx := 1) rfl rfl rfl rfl ?_
  refine ev_ic f_X4_clear (nx := 2) (v := 0) rfl (by decide) rfl ?_
  refine ev_putIT f_X4_clear (nx := 5) rfl (hI.wf.s rfl) rfl rfl rfl (hI.putB (hI.wf.s rfl) rfl rfl (by decide : (0:Int) ≤ (0:Int32).toInt) (by decide) (by decide : (0:Int32).toInt ≤ (0:Int)) (by decide)) (hX.upI rfl) (fun g2 e2 hI hX => ?_)
  refine ev_retK0 f_X4_clear rfl rfl rfl ?_
  refine ev_ic f_X1_takeShips (nx := 8) (v := 0) rfl (by decide) rfl ?_
  refine ev_loc f_X1_takeShips (nx := 10) (lo' := [(5, .int 0), (0, .ref 28), (1, .ref ar1), (2, .int 0), (3, .int (-1)), (4, .int 0)]) rfl rfl rfl rfl ?_
  have L3 : ∀ (m3 : Nat) (gi3 : Nat → Nat → Int32) (gl3 : Nat → Nat → Int64) (gr3 : Nat → Nat → Value) (y3_5 : Int32), t_I sh gi3 gr3 → t_X wl_d_takeShips sh gi gl gr gi3 gl3 gr3 → t_Rv sh gr3 ar1 → 0 ≤ y3_5.toInt → y3_5.toInt ≤ 6 → (∀ D : s_D, t_VL gr ar1 → t_CV gi gl ar1 D → (ar1 = 3 ∨ 102 ≤ ar1) → t_Cb D → (∀ s : Nat, (s : Int) < D 1 → 0 ≤ D (56 + 5 * s) ∧ D (56 + 5 * s) ≤ 1) → y3_5.toInt ≤ D 1 ∧ (gi3 29 0).toInt = y3_5.toInt ∧ s_RO (s_A D) (gi3 30) y3_5.toNatClampNeg ∧ s_RM (s_A D) (gi3 31) y3_5.toNatClampNeg ∧ s_RX (s_A D) (fun k => D (54 + 5 * k)) (gi3 32) y3_5.toNatClampNeg ∧ s_RX (s_A D) (fun k => D (55 + 5 * k)) (gi3 33) y3_5.toNatClampNeg ∧ s_RX (s_A D) (fun k => D (56 + 5 * k)) (gi3 34) y3_5.toNatClampNeg) → (6 - y3_5.toInt).toNat = m3 → x_Ev X (d + 3) n_X1_takeShips 10 [(5, .int y3_5), (0, .ref 28), (1, .ref ar1), (2, .int 0), (3, .int (-1)), (4, .int 0)] [] (sh, gi3, gl3, gr3) (t_PN wl_d_takeShips sh gi gl gr (Q_d_takeShips gi gl gr ar1)) := by
    intro m3
    induction m3 using Nat.strongRecOn with
    | _ m3 ih3 =>
    intro gi3 gl3 gr3 y3_5 hI hX p_a1 l3_5 u3_5 j3_0 hm3
    obtain ⟨l4, u4⟩ := hI.b (hI.wf.s (k := 29) rfl) (t_bdK rfl : t_bd 3 0 = some (0, 6))
    refine ev_loc f_X1_takeShips (nx := 12) rfl rfl rfl rfl ?_
    have hXh := hX
    refine ev_loc f_X1_takeShips (nx := 13) rfl rfl rfl rfl ?_
    obtain ⟨a5, e5, p5⟩ := p_a1.2.2.2.2.1
    refine ev_getR f_X1_takeShips (nx := 16) rfl p_a1.1 rfl rfl e5 rfl rfl ?_
    refine ev_getI f_X1_takeShips (nx := 19) rfl p5.1 rfl rfl rfl ?_
    obtain ⟨l6, u6⟩ := hI.b p5.1 (t_bdK rfl : t_bd 3 0 = some (0, 6))
    refine ev_if f_X1_takeShips (t1 := 77) (t2 := 22) rfl rfl rfl (fun h7 => ?_) (fun h7 => ?_)
    · have r8 : (gi3 a5 0).toInt ≤ y3_5.toInt := Int32.le_iff_toInt_le.mp h7
      exact ev_ret f_X1_takeShips rfl rfl rfl ⟨_, _, _, rfl, hI, hX, ⟨rfl, (show ∀ D : s_D, t_VL gr ar1 → t_CV gi gl ar1 D → (ar1 = 3 ∨ 102 ≤ ar1) → t_Cb D → (∀ s : Nat, (s : Int) < D 1 → 0 ≤ D (56 + 5 * s) ∧ D (56 + 5 * s) ≤ 1) → (gi3 29 0).toInt = D 1 ∧ s_RO (s_A D) (gi3 30) (D 1).toNat ∧ s_RM (s_A D) (gi3 31) (D 1).toNat ∧ s_RX (s_A D) (fun k => D (54 + 5 * k)) (gi3 32) (D 1).toNat ∧ s_RX (s_A D) (fun k => D (55 + 5 * k)) (gi3 33) (D 1).toNat ∧ s_RX (s_A D) (fun k => D (56 + 5 * k)) (gi3 34) (D 1).toNat from (fun D hl hc hv hb hsl => (by
                                                            obtain ⟨g0, g1, g2⟩ := j3_0 D hl hc hv hb hsl
                                                            have hK := t_nd_fr hXh rfl
                                                            have hl2 := hl.fr (fun K k1 k2 => hK K (by omega))
                                                            have hc2 := hc.fr (fun K k1 k2 => hK K (by omega))
                                                            have hb0 : a5 = (ar1 + 3) := (Value.ref.inj ((hl2.1.2.2.2.1).symm.trans e5)).symm
                                                            subst hb0
                                                            have hL := hc2.2.2.1.1
                                                            have cy := t_clamp (i := y3_5) (by omega)
                                                            rw [show (D 1).toNat = y3_5.toNatClampNeg from (by omega)]
                                                            exact ⟨g1.trans (by omega), g2⟩)))⟩⟩
    · have r9 : y3_5.toInt < (gi3 a5 0).toInt := Int32.lt_iff_toInt_lt.mp (t_nle h7)
      have u10 : y3_5.toInt ≤ 5 := t_ltu (t_nle h7) u6 rfl
      have l11 : 1 ≤ (gi3 a5 0).toInt := t_ltl (t_nle h7) l3_5 rfl
      refine ev_loc f_X1_takeShips (nx := 23) rfl rfl rfl rfl ?_
      refine ev_loc f_X1_takeShips (nx := 25) rfl rfl rfl rfl ?_
      refine ev_aluvI f_X1_takeShips (nx := 26) (w := 0) rfl rfl rfl (t_shr0 _) rfl ?_
      refine ev_ic f_X1_takeShips (nx := 27) (v := 1) rfl (by decide) rfl ?_
      refine ev_aluvI f_X1_takeShips (nx := 28) (w := 0) rfl rfl rfl (by decide) rfl ?_
      refine ev_t f_X1_takeShips (t1 := 31) (t2 := 71) rfl rfl rfl (by decide) ?_
      refine ev_loc f_X1_takeShips (nx := 32) rfl rfl rfl rfl ?_
      refine ev_getR f_X1_takeShips (nx := 35) (v := .ref a5) rfl p_a1.1 rfl rfl e5 rfl rfl ?_
      obtain ⟨a12, e12, s12, o12⟩ := p5.2.2.1
      refine ev_getR f_X1_takeShips (nx := 38) rfl p5.1 rfl rfl e12 rfl rfl ?_
      refine ev_loc f_X1_takeShips (nx := 40) rfl rfl rfl rfl ?_
      refine ev_ialdT f_X1_takeShips (nx := 41) rfl s12 l3_5 (by decide) u10 (by decide) rfl (fun w13 e13 => ?_)
      refine ev_loc f_X1_takeShips (nx := 43) rfl rfl rfl rfl ?_
      refine ev_loc f_X1_takeShips (nx := 44) rfl rfl rfl rfl ?_
      refine ev_f f_X1_takeShips (t1 := 47) (t2 := 52) rfl rfl rfl (t_neT' (by decide : ((-1):Int32).toInt ≤ ((-1):Int)) l3_5 (by decide)) ?_
      refine ev_ic f_X1_takeShips (nx := 53) (v := 0) rfl (by decide) rfl ?_
      refine ev_addC f_X1_takeShips (nx := 54) (c := 0) (l := (-2147483648)) (u := 2147483647) rfl (by decide) (t_lo w13) (t_hi w13) rfl rfl (by decide) (by decide) rfl (fun z14 e14 l14 u14 => ?_)
      refine ev_loc f_X1_takeShips (nx := 56) (lo' := [(6, .int z14), (5, .int y3_5), (0, .ref 28), (1, .ref ar1), (2, .int 0), (3, .int (-1)), (4, .int 0)]) rfl rfl rfl rfl ?_
      refine ev_loc f_X1_takeShips (nx := 57) rfl rfl rfl rfl ?_
      refine ev_getR f_X1_takeShips (nx := 60) rfl (hI.wf.s rfl) rfl rfl (hI.wf.r rfl) rfl rfl ?_
      refine ev_loc f_X1_takeShips (nx := 61) rfl rfl rfl rfl ?_
      refine ev_getR f_X1_takeShips (nx := 64) (v := .ref a5) rfl p_a1.1 rfl rfl e5 rfl rfl ?_
      refine ev_loc f_X1_takeShips (nx := 66) rfl rfl rfl rfl ?_
      refine ev_loc f_X1_takeShips (nx := 68) rfl rfl rfl rfl ?_
      refine ev_qN f_X1_takeShips (nx := 71) (r := []) rfl rfl rfl rfl rfl rfl rfl (c_d_join_29 hI (a5) p5 (y3_5) (z14)) rfl hX rfl (fun gi15 gl15 gr15 hI hX hC15 q15 => ?_)
      have q15 : (∀ n t w l : Nat, (gi3 29 0).toInt = n → n ≤ 5 → 0 ≤ y3_5.toInt → y3_5.toInt < (gi3 a5 0).toInt → s_LR a5 → s_LR t → s_LR w → s_LR l → gr3 a5 3 = .ref t → gr3 a5 4 = .ref w → gr3 a5 5 = .ref l → (∀ j : Nat, j < n → gi3 34 j &&& 1 = gi3 34 j) → (gi15 29 0).toInt = n + 1 ∧ ∀ j, j ≤ n → gi15 30 j = s_is (gi3 30) (y3_5) (s_pk (fun j => (gi3 31 j).toInt) z14.toInt n) j ∧ gi15 31 j = s_is (gi3 31) (z14) (s_pk (fun j => (gi3 31 j).toInt) z14.toInt n) j ∧ gi15 32 j = s_is (gi3 32) (gi3 t y3_5.toNatClampNeg) (s_pk (fun j => (gi3 31 j).toInt) z14.toInt n) j ∧ gi15 33 j = s_is (gi3 33) (gi3 w y3_5.toNatClampNeg) (s_pk (fun j => (gi3 31 j).toInt) z14.toInt n) j ∧ gi15 34 j = s_is (gi3 34) (gi3 l y3_5.toNatClampNeg &&& 1) (s_pk (fun j => (gi3 31 j).toInt) z14.toInt n) j) := q15
      replace p_a1 := p_a1.ext hC15.2
      replace p5 := p5.ext hC15.2
      obtain ⟨l16, u16⟩ := hI.b (hI.wf.s (k := 29) rfl) (t_bdK rfl : t_bd 3 0 = some (0, 6))
      refine ev_incR f_X1_takeShips (nx := 74) (c := 1) (l := 1) (u := 6) rfl rfl (by decide) (by decide) l3_5 u10 rfl rfl (by decide) (by decide) rfl (fun z17 e17 l17 u17 => ?_)
      refine ev_jmp f_X1_takeShips (nx := 10) rfl rfl rfl ?_
      refine ev_sub (lo := [(5, .int z17), (0, .ref 28), (1, .ref ar1), (2, .int 0), (3, .int (-1)), (4, .int 0)]) rfl (t_sc rfl (t_sc rfl (t_sc rfl (t_sc rfl (t_sc rfl (t_sc rfl t_sn)))))) ?_
      exact ih3 _ (by omega) gi15 gl15 gr15 (z17) hI hX p_a1 (Int.le_trans (by decide : (0:Int) ≤ 1) l17) u17 (fun D hl hc hv hb hsl => (by
                                                            obtain ⟨g0, g1, g2, g3, g4, g5, g6⟩ := j3_0 D hl hc hv hb hsl
                                                            have hK := t_nd_fr hXh rfl
                                                            have hl2 := hl.fr (fun K k1 k2 => hK K (by omega))
                                                            have hc2 := hc.fr (fun K k1 k2 => hK K (by omega))
                                                            have hb0 : a5 = (ar1 + 3) := (Value.ref.inj ((hl2.1.2.2.2.1).symm.trans e5)).symm
                                                            subst hb0
                                                            have hb1 : a12 = (ar1 + 3 + 2) := (Value.ref.inj ((hl2.2.1.2.1).symm.trans e12)).symm
                                                            subst hb1
                                                            have hL := hc2.2.2.1.1
                                                            have b1 := hb.2.1
                                                            have b2 := hb.2.2
                                                            have cy := t_clamp (i := y3_5) (by omega)
                                                            have hzz : ∀ j : Nat, j < y3_5.toNatClampNeg → gi3 34 j &&& 1 = gi3 34 j := fun j hj => s_and1 (by rw [g6 j hj]; exact hsl _ (by have := s_or_lt (s_A D) _ _ hj; omega))
                                                            have hq := q15 y3_5.toNatClampNeg (ar1 + 3 + 3) (ar1 + 3 + 4) (ar1 + 3 + 5) (by omega) (by omega) (by omega) (by omega) (by unfold s_LR; omega) (by unfold s_LR; omega) (by unfold s_LR; omega) (by unfold s_LR; omega) hl2.2.1.2.2.1 hl2.2.1.2.2.2.1 hl2.2.1.2.2.2.2 hzz
                                                            have hs := hc2.2.2.1.2 y3_5.toNatClampNeg (by omega)
                                                            have hw : w13.toInt = s_A D y3_5.toNatClampNeg := by rw [e13]; exact hs.2.1
                                                            have hz : z14.toInt = s_A D y3_5.toNatClampNeg := by rw [← hw]; omega
                                                            have hsl2 : (gi3 (ar1 + 3 + 5) y3_5.toNatClampNeg &&& 1).toInt = D (56 + 5 * y3_5.toNatClampNeg) := by rw [s_and1 (by rw [hs.2.2.2.2]; exact hsl _ (by omega))]; exact hs.2.2.2.2
                                                            rw [s_cp (by omega) e17]
                                                            exact ⟨by omega, hq.1.trans (by omega), s_RO_s g2 cy.symm (fun j hj => g3 j hj) hz (fun j hj => (hq.2 j hj).1), s_RM_s g3 hz (fun j hj => g3 j hj) hz (fun j hj => (hq.2 j hj).2.1), s_RX_s g4 hs.2.2.1 (fun j hj => g3 j hj) hz (fun j hj => (hq.2 j hj).2.2.1), s_RX_s g5 hs.2.2.2.1 (fun j hj => g3 j hj) hz (fun j hj => (hq.2 j hj).2.2.2.1), s_RX_s g6 hsl2 (fun j hj => g3 j hj) hz (fun j hj => (hq.2 j hj).2.2.2.2)⟩)) rfl
  refine ev_sub (lo := [(5, .int 0), (0, .ref 28), (1, .ref ar1), (2, .int 0), (3, .int (-1)), (4, .int 0)]) rfl (t_sc rfl (t_sc rfl (t_sc rfl (t_sc rfl (t_sc rfl (t_sc rfl t_sn)))))) ?_
  exact L3 _ g2 gl gr (0) hI hX p_a1 (by decide : (0:Int) ≤ (0:Int32).toInt) (Int.le_trans (by decide : (0:Int32).toInt ≤ (0:Int)) (by decide : (0:Int) ≤ 6)) (fun D hl hc hv hb hsl => ⟨by have h1 := hb.2.1; have h2 := hb.2.2; have z0 : (0 : Int32).toInt = 0 := rfl; omega, (by have z0 : (0 : Int32).toInt = 0 := rfl; have ff18 : (g2 29 0).toInt = 0 := (congrArg Int32.toInt (by rw [e2]; exact x_up2_at _ _ _ _ : g2 29 0 = 0)).trans (by decide); omega), fun j hj => absurd hj (Nat.not_lt_zero _), fun j hj => absurd hj (Nat.not_lt_zero _), fun j hj => absurd hj (Nat.not_lt_zero _), fun j hj => absurd hj (Nat.not_lt_zero _), fun j hj => absurd hj (Nat.not_lt_zero _)⟩) rfl
noncomputable def wl_d_takeCarts : List (Nat × Nat) := [(35, 0), (36, 9999), (37, 9999), (38, 9999), (39, 9999), (40, 9999)]
noncomputable def Q_d_takeCarts (gi : Nat → Nat → Int32) (gl : Nat → Nat → Int64) (gr : Nat → Nat → Value) (ar1 : Nat) : (Nat → Nat → Int32) → (Nat → Nat → Int64) → (Nat → Nat → Value) → Prop := fun (gi2 : Nat → Nat → Int32) (gl2 : Nat → Nat → Int64) (gr2 : Nat → Nat → Value) => ∀ D : s_D, t_VL gr ar1 → t_CV gi gl ar1 D → (ar1 = 3 ∨ 102 ≤ ar1) → t_Cb D → (gi2 35 0).toInt = D 2 ∧ s_RO (s_B D) (gi2 36) (D 2).toNat ∧ s_RM (s_B D) (gi2 37) (D 2).toNat ∧ s_RX (s_B D) (fun k => D (83 + 3 * k)) (gi2 38) (D 2).toNat ∧ s_RX (s_B D) (fun k => D (84 + 3 * k)) (gi2 39) (D 2).toNat ∧ s_RX (s_B D) (fun _ => 0) (gi2 40) (D 2).toNat
theorem c_d_takeCarts {X : x_Ext} {d : Nat} {sh : List (Nat ⊕ (Nat × Nat))} {gi : Nat → Nat → Int32} {gl : Nat → Nat → Int64} {gr : Nat → Nat → Value} (hI : t_I sh gi gr) (ar1 : Nat) (p_a1 : t_Rv sh gr ar1) : x_Me X (d + 3) n_X1_takeCarts [.ref 28, .ref ar1, .int (-1)] (sh, gi, gl, gr) (t_PN wl_d_takeCarts sh gi gl gr (Q_d_takeCarts gi gl gr ar1)) := by
  have hX : t_X wl_d_takeCarts sh gi gl gr gi gl gr := t_X.rf
  refine me_i f_X1_takeCarts (hI.wf.s rfl) rfl rfl rfl ?_
  obtain ⟨l1, u1⟩ := hI.b (hI.wf.s (k := 35) rfl) (t_bdK rfl : t_bd 3 0 = some (0, 6))
  refine ev_loc f_X1_takeCarts (nx := 1) rfl rfl rfl rfl ?_
  refine ev_getR f_X1_takeCarts (nx := 4) rfl (hI.wf.s rfl) rfl rfl (hI.wf.r rfl) rfl rfl ?_
  refine ev_inV1 f_X1_takeCarts (nx := 7) (lo2 := [(0, .ref 35)]) rfl rfl rfl rfl f_X4_clear (hI.wf.s rfl) rfl rfl rfl rfl rfl ?_
  refine ev_loc f_X4_clear (nx := 1) rfl rfl rfl rfl ?_
  refine ev_ic f_X4_clear (nx := 2) (v := 0) rfl (by decide) rfl ?_
  refine ev_putIT f_X4_clear (nx := 5) rfl (hI.wf.s rfl) rfl rfl rfl (hI.putB (hI.wf.s rfl) rfl rfl (by decide : (0:Int) ≤ (0:Int32).toInt) (by decide) (by decide : (0:Int32).toInt ≤ (0:Int)) (by decide)) (hX.upI rfl) (fun g2 e2 hI hX => ?_)
  refine ev_retK0 f_X4_clear rfl rfl rfl ?_
  refine ev_ic f_X1_takeCarts (nx := 8) (v := 0) rfl (by decide) rfl ?_
  refine ev_loc f_X1_takeCarts (nx := 9) (lo' := [(3, .int 0), (0, .ref 28), (1, .ref ar1), (2, .int (-1))]) rfl rfl rfl rfl ?_
  have L3 : ∀ (m3 : Nat) (gi3 : Nat → Nat → Int32) (gl3 : Nat → Nat → Int64) (gr3 : Nat → Nat → Value) (y3_3 : Int32), t_I sh gi3 gr3 → t_X wl_d_takeCarts sh gi gl gr gi3 gl3 gr3 → t_Rv sh gr3 ar1 → 0 ≤ y3_3.toInt → y3_3.toInt ≤ 6 → (∀ D : s_D, t_VL gr ar1 → t_CV gi gl ar1 D → (ar1 = 3 ∨ 102 ≤ ar1) → t_Cb D → y3_3.toInt ≤ D 2 ∧ (gi3 35 0).toInt = y3_3.toInt ∧ s_RO (s_B D) (gi3 36) y3_3.toNatClampNeg ∧ s_RM (s_B D) (gi3 37) y3_3.toNatClampNeg ∧ s_RX (s_B D) (fun k => D (83 + 3 * k)) (gi3 38) y3_3.toNatClampNeg ∧ s_RX (s_B D) (fun k => D (84 + 3 * k)) (gi3 39) y3_3.toNatClampNeg ∧ s_RX (s_B D) (fun _ => 0) (gi3 40) y3_3.toNatClampNeg) → (6 - y3_3.toInt).toNat = m3 → x_Ev X (d + 3) n_X1_takeCarts 9 [(3, .int y3_3), (0, .ref 28), (1, .ref ar1), (2, .int (-1))] [] (sh, gi3, gl3, gr3) (t_PN wl_d_takeCarts sh gi gl gr (Q_d_takeCarts gi gl gr ar1)) := by
    intro m3
    induction m3 using Nat.strongRecOn with
    | _ m3 ih3 =>
    intro gi3 gl3 gr3 y3_3 hI hX p_a1 l3_3 u3_3 j3_0 hm3
    obtain ⟨l4, u4⟩ := hI.b (hI.wf.s (k := 35) rfl) (t_bdK rfl : t_bd 3 0 = some (0, 6))
    refine ev_loc f_X1_takeCarts (nx := 10) rfl rfl rfl rfl ?_
    have hXh := hX
    refine ev_loc f_X1_takeCarts (nx := 11) rfl rfl rfl rfl ?_
    obtain ⟨a5, e5, p5⟩ := p_a1.2.2.2.2.2
    refine ev_getR f_X1_takeCarts (nx := 14) rfl p_a1.1 rfl rfl e5 rfl rfl ?_
    refine ev_getI f_X1_takeCarts (nx := 17) rfl p5.1 rfl rfl rfl ?_
    obtain ⟨l6, u6⟩ := hI.b p5.1 (t_bdK rfl : t_bd 3 0 = some (0, 6))
    refine ev_if f_X1_takeCarts (t1 := 52) (t2 := 20) rfl rfl rfl (fun h7 => ?_) (fun h7 => ?_)
    · have r8 : (gi3 a5 0).toInt ≤ y3_3.toInt := Int32.le_iff_toInt_le.mp h7
      exact ev_ret f_X1_takeCarts rfl rfl rfl ⟨_, _, _, rfl, hI, hX, ⟨rfl, (show ∀ D : s_D, t_VL gr ar1 → t_CV gi gl ar1 D → (ar1 = 3 ∨ 102 ≤ ar1) → t_Cb D → (gi3 35 0).toInt = D 2 ∧ s_RO (s_B D) (gi3 36) (D 2).toNat ∧ s_RM (s_B D) (gi3 37) (D 2).toNat ∧ s_RX (s_B D) (fun k => D (83 + 3 * k)) (gi3 38) (D 2).toNat ∧ s_RX (s_B D) (fun k => D (84 + 3 * k)) (gi3 39) (D 2).toNat ∧ s_RX (s_B D) (fun _ => 0) (gi3 40) (D 2).toNat from (fun D hl hc hv hb => (by
                                                            obtain ⟨g0, g1, g2⟩ := j3_0 D hl hc hv hb
                                                            have hK := t_nd_fr hXh rfl
                                                            have hl2 := hl.fr (fun K k1 k2 => hK K (by omega))
                                                            have hc2 := hc.fr (fun K k1 k2 => hK K (by omega))
                                                            have hb0 : a5 = (ar1 + 10) := (Value.ref.inj ((hl2.1.2.2.2.2).symm.trans e5)).symm
                                                            subst hb0
                                                            have hL := hc2.2.2.2.1
                                                            have cy := t_clamp (i := y3_3) (by omega)
                                                            rw [show (D 2).toNat = y3_3.toNatClampNeg from (by omega)]
                                                            exact ⟨g1.trans (by omega), g2⟩)))⟩⟩
    · have r9 : y3_3.toInt < (gi3 a5 0).toInt := Int32.lt_iff_toInt_lt.mp (t_nle h7)
      have u10 : y3_3.toInt ≤ 5 := t_ltu (t_nle h7) u6 rfl
      have l11 : 1 ≤ (gi3 a5 0).toInt := t_ltl (t_nle h7) l3_3 rfl
      refine ev_loc f_X1_takeCarts (nx := 21) rfl rfl rfl rfl ?_
      refine ev_loc f_X1_takeCarts (nx := 22) rfl rfl rfl rfl ?_
      refine ev_f f_X1_takeCarts (t1 := 46) (t2 := 25) rfl rfl rfl (t_neT' (by decide : ((-1):Int32).toInt ≤ ((-1):Int)) l3_3 (by decide)) ?_
      refine ev_loc f_X1_takeCarts (nx := 26) rfl rfl rfl rfl ?_
      refine ev_getR f_X1_takeCarts (nx := 29) rfl (hI.wf.s rfl) rfl rfl (hI.wf.r rfl) rfl rfl ?_
      refine ev_loc f_X1_takeCarts (nx := 30) rfl rfl rfl rfl ?_
      refine ev_getR f_X1_takeCarts (nx := 33) (v := .ref a5) rfl p_a1.1 rfl rfl e5 rfl rfl ?_
      refine ev_loc f_X1_takeCarts (nx := 34) rfl rfl rfl rfl ?_
      refine ev_loc f_X1_takeCarts (nx := 35) rfl rfl rfl rfl ?_
      refine ev_getR f_X1_takeCarts (nx := 38) (v := .ref a5) rfl p_a1.1 rfl rfl e5 rfl rfl ?_
      obtain ⟨a12, e12, s12, o12⟩ := p5.2.2.1
      refine ev_getR f_X1_takeCarts (nx := 41) rfl p5.1 rfl rfl e12 rfl rfl ?_
      refine ev_loc f_X1_takeCarts (nx := 42) rfl rfl rfl rfl ?_
      refine ev_ialdT f_X1_takeCarts (nx := 43) rfl s12 l3_3 (by decide) u10 (by decide) rfl (fun w13 e13 => ?_)
      refine ev_qN f_X1_takeCarts (nx := 46) (r := []) rfl rfl rfl rfl rfl rfl rfl (c_d_join_35 hI (a5) p5 (y3_3) (w13)) rfl hX rfl (fun gi14 gl14 gr14 hI hX hC14 q14 => ?_)
      have q14 : (∀ n t w l : Nat, (gi3 35 0).toInt = n → n ≤ 5 → 0 ≤ y3_3.toInt → y3_3.toInt < (gi3 a5 0).toInt → s_LR a5 → s_LR t → s_LR w → s_LR l → gr3 a5 3 = .ref t → gr3 a5 4 = .ref w → gr3 a5 5 = .ref l → (∀ j : Nat, j < n → gi3 40 j &&& 1 = gi3 40 j) → (gi14 35 0).toInt = n + 1 ∧ ∀ j, j ≤ n → gi14 36 j = s_is (gi3 36) (y3_3) (s_pk (fun j => (gi3 37 j).toInt) w13.toInt n) j ∧ gi14 37 j = s_is (gi3 37) (w13) (s_pk (fun j => (gi3 37 j).toInt) w13.toInt n) j ∧ gi14 38 j = s_is (gi3 38) (gi3 t y3_3.toNatClampNeg) (s_pk (fun j => (gi3 37 j).toInt) w13.toInt n) j ∧ gi14 39 j = s_is (gi3 39) (gi3 w y3_3.toNatClampNeg) (s_pk (fun j => (gi3 37 j).toInt) w13.toInt n) j ∧ gi14 40 j = s_is (gi3 40) (gi3 l y3_3.toNatClampNeg &&& 1) (s_pk (fun j => (gi3 37 j).toInt) w13.toInt n) j) := q14
      replace p_a1 := p_a1.ext hC14.2
      replace p5 := p5.ext hC14.2
      obtain ⟨l15, u15⟩ := hI.b (hI.wf.s (k := 35) rfl) (t_bdK rfl : t_bd 3 0 = some (0, 6))
      refine ev_incR f_X1_takeCarts (nx := 49) (c := 1) (l := 1) (u := 6) rfl rfl (by decide) (by decide) l3_3 u10 rfl rfl (by decide) (by decide) rfl (fun z16 e16 l16 u16 => ?_)
      refine ev_jmp f_X1_takeCarts (nx := 9) rfl rfl rfl ?_
      refine ev_sub (lo := [(3, .int z16), (0, .ref 28), (1, .ref ar1), (2, .int (-1))]) rfl (t_sc rfl (t_sc rfl (t_sc rfl (t_sc rfl t_sn)))) ?_
      exact ih3 _ (by omega) gi14 gl14 gr14 (z16) hI hX p_a1 (Int.le_trans (by decide : (0:Int) ≤ 1) l16) u16 (fun D hl hc hv hb => (by
                                                            obtain ⟨g0, g1, g2, g3, g4, g5, g6⟩ := j3_0 D hl hc hv hb
                                                            have hK := t_nd_fr hXh rfl
                                                            have hl2 := hl.fr (fun K k1 k2 => hK K (by omega))
                                                            have hc2 := hc.fr (fun K k1 k2 => hK K (by omega))
                                                            have hb0 : a5 = (ar1 + 10) := (Value.ref.inj ((hl2.1.2.2.2.2).symm.trans e5)).symm
                                                            subst hb0
                                                            have hb1 : a12 = (ar1 + 10 + 2) := (Value.ref.inj ((hl2.2.2.2.1).symm.trans e12)).symm
                                                            subst hb1
                                                            have hL := hc2.2.2.2.1
                                                            have b1 := hb.2.1
                                                            have b2 := hb.2.2
                                                            have cy := t_clamp (i := y3_3) (by omega)
                                                            have hzz : ∀ j : Nat, j < y3_3.toNatClampNeg → gi3 40 j &&& 1 = gi3 40 j := fun j hj => s_and1 (by rw [g6 j hj]; exact ⟨Int.le_refl 0, (by decide : (0 : Int) ≤ 1)⟩)
                                                            have hq := q14 y3_3.toNatClampNeg (ar1 + 10 + 3) (ar1 + 10 + 4) (ar1 + 10 + 5) (by omega) (by omega) (by omega) (by omega) (by unfold s_LR; omega) (by unfold s_LR; omega) (by unfold s_LR; omega) (by unfold s_LR; omega) hl2.2.2.2.2.1 hl2.2.2.2.2.2.1 hl2.2.2.2.2.2.2 hzz
                                                            have hs := hc2.2.2.2.2 y3_3.toNatClampNeg (by omega)
                                                            have hw : w13.toInt = s_B D y3_3.toNatClampNeg := by rw [e13]; exact hs.1
                                                            have hz := hw
                                                            have hsl2 : (gi3 (ar1 + 10 + 5) y3_3.toNatClampNeg &&& 1).toInt = 0 := by rw [s_and1 (by rw [hs.2.2.2]; decide)]; exact hs.2.2.2
                                                            rw [s_cp (by omega) e16]
                                                            exact ⟨by omega, hq.1.trans (by omega), s_RO_s g2 cy.symm (fun j hj => g3 j hj) hz (fun j hj => (hq.2 j hj).1), s_RM_s g3 hz (fun j hj => g3 j hj) hz (fun j hj => (hq.2 j hj).2.1), s_RX_s g4 hs.2.1 (fun j hj => g3 j hj) hz (fun j hj => (hq.2 j hj).2.2.1), s_RX_s g5 hs.2.2.1 (fun j hj => g3 j hj) hz (fun j hj => (hq.2 j hj).2.2.2.1), s_RX_s g6 hsl2 (fun j hj => g3 j hj) hz (fun j hj => (hq.2 j hj).2.2.2.2)⟩)) rfl
  refine ev_sub (lo := [(3, .int 0), (0, .ref 28), (1, .ref ar1), (2, .int (-1))]) rfl (t_sc rfl (t_sc rfl (t_sc rfl (t_sc rfl t_sn)))) ?_
  exact L3 _ g2 gl gr (0) hI hX p_a1 (by decide : (0:Int) ≤ (0:Int32).toInt) (Int.le_trans (by decide : (0:Int32).toInt ≤ (0:Int)) (by decide : (0:Int) ≤ 6)) (fun D hl hc hv hb => ⟨by have h1 := hb.2.1; have h2 := hb.2.2; have z0 : (0 : Int32).toInt = 0 := rfl; omega, (by have z0 : (0 : Int32).toInt = 0 := rfl; have ff17 : (g2 35 0).toInt = 0 := (congrArg Int32.toInt (by rw [e2]; exact x_up2_at _ _ _ _ : g2 35 0 = 0)).trans (by decide); omega), fun j hj => absurd hj (Nat.not_lt_zero _), fun j hj => absurd hj (Nat.not_lt_zero _), fun j hj => absurd hj (Nat.not_lt_zero _), fun j hj => absurd hj (Nat.not_lt_zero _), fun j hj => absurd hj (Nat.not_lt_zero _)⟩) rfl
noncomputable def wl_d_nextShip : List (Nat × Nat) := [(0, 0), (29, 0), (30, 9999), (31, 9999), (32, 9999), (33, 9999), (34, 9999)]
noncomputable def Q_d_nextShip (gi : Nat → Nat → Int32) (gl : Nat → Nat → Int64) (gr : Nat → Nat → Value) (ar1 : Int32) : Int32 → (Nat → Nat → Int32) → (Nat → Nat → Int64) → (Nat → Nat → Value) → Prop := fun (v : Int32) (gi2 : Nat → Nat → Int32) (gl2 : Nat → Nat → Int64) (gr2 : Nat → Nat → Value) => ∀ (u : Nat) (D : s_D), gr 0 6 = .ref u → t_VL gr u → t_CV gi gl u D → t_Cb D → (u = 3 ∨ 102 ≤ u) → (∀ s : Nat, (s : Int) < D 1 → 0 ≤ D (56 + 5 * s) ∧ D (56 + 5 * s) ≤ 1) → ((0 ≤ ar1.toInt ∧ ar1.toInt < D 1) → v.toInt = ((s_or (s_A D) (D 1).toNat ar1.toNatClampNeg : Nat) : Int)) ∧ (¬ (0 ≤ ar1.toInt ∧ ar1.toInt < D 1) → v.toInt = -1)
theorem c_d_nextShip {X : x_Ext} {d : Nat} {sh : List (Nat ⊕ (Nat × Nat))} {gi : Nat → Nat → Int32} {gl : Nat → Nat → Int64} {gr : Nat → Nat → Value} (hI : t_I sh gi gr) (ar1 : Int32) : x_Me X (d + 4) n_X11_nextShip [.ref 0, .int ar1] (sh, gi, gl, gr) (t_PI wl_d_nextShip sh gi gl gr (-2147483648) 2147483647 (Q_d_nextShip gi gl gr ar1)) := by
  have hX : t_X wl_d_nextShip sh gi gl gr gi gl gr := t_X.rf
  refine me_i f_X11_nextShip (hI.wf.s rfl) rfl rfl rfl ?_
  refine ev_loc f_X11_nextShip (nx := 1) rfl rfl rfl rfl ?_
  refine ev_loc f_X11_nextShip (nx := 2) rfl rfl rfl rfl ?_
  refine ev_inV2 f_X11_nextShip (nx := 5) (lo2 := [(0, .ref 0), (1, .int ar1)]) rfl rfl rfl rfl f_X11_isShip (hI.wf.s rfl) rfl rfl rfl rfl rfl ?_
  refine ev_loc f_X11_isShip (nx := 1) rfl rfl rfl rfl ?_
  refine ev_if f_X11_isShip (t1 := 22) (t2 := 4) rfl rfl rfl (fun h1 => ?_) (fun h1 => ?_)
  · have u2 : ar1.toInt ≤ (-1) := t_ltu h1 (by decide : (0:Int32).toInt ≤ (0:Int)) rfl
    refine ev_ic f_X11_isShip (nx := 23) (v := 0) rfl (by decide) rfl ?_
    refine ev_retK1 f_X11_isShip rfl rfl rfl ?_
    refine ev_t f_X11_nextShip (t1 := 8) (t2 := 15) rfl rfl rfl (by decide) ?_
    refine ev_loc f_X11_nextShip (nx := 9) rfl rfl rfl rfl ?_
    refine ev_bp f_X11_nextShip (nx := 11) (v := 6) rfl (by decide) rfl ?_
    refine ev_inV2 f_X11_nextShip (nx := 14) (lo2 := [(0, .ref 0), (1, .int 6)]) rfl rfl rfl rfl f_X11_refuse (hI.wf.s rfl) rfl rfl rfl rfl rfl ?_
    refine ev_loc f_X11_refuse (nx := 1) rfl rfl rfl rfl ?_
    refine ev_loc f_X11_refuse (nx := 2) rfl rfl rfl rfl ?_
    refine ev_putIT f_X11_refuse (nx := 5) rfl (hI.wf.s rfl) rfl rfl rfl (hI.put0 (hI.wf.s rfl) rfl rfl) (hX.upI rfl) (fun g3 e3 hI hX => ?_)
    refine ev_ic f_X11_refuse (nx := 6) (v := -1) rfl (by decide) rfl ?_
    refine ev_retK1 f_X11_refuse rfl rfl rfl ?_
    exact ev_ret f_X11_nextShip rfl rfl rfl ⟨_, _, _, rfl, hI, hX, ⟨_, rfl, (Int.le_trans (by decide : ((-2147483648):Int) ≤ (-1)) (by decide : ((-1):Int) ≤ ((-1):Int32).toInt)), (Int.le_trans (by decide : ((-1):Int32).toInt ≤ ((-1):Int)) (by decide : ((-1):Int) ≤ 2147483647)), (show ∀ (u : Nat) (D : s_D), gr 0 6 = .ref u → t_VL gr u → t_CV gi gl u D → t_Cb D → (u = 3 ∨ 102 ≤ u) → (∀ s : Nat, (s : Int) < D 1 → 0 ≤ D (56 + 5 * s) ∧ D (56 + 5 * s) ≤ 1) → ((0 ≤ ar1.toInt ∧ ar1.toInt < D 1) → ((-1) : Int) = ((s_or (s_A D) (D 1).toNat ar1.toNatClampNeg : Nat) : Int)) ∧ (¬ (0 ≤ ar1.toInt ∧ ar1.toInt < D 1) → ((-1) : Int) = -1) from (by
                                                            intro u D hu hl hc hb hv hsl
                                                            have hm := hc.2.2.1.1
                                                            exact ⟨fun h => absurd h (by omega), fun _ => rfl⟩))⟩⟩
  · have l4 : 0 ≤ ar1.toInt := t_lel (t_nlt h1) (by decide : (0:Int) ≤ (0:Int32).toInt)
    refine ev_loc f_X11_isShip (nx := 5) rfl rfl rfl rfl ?_
    refine ev_loc f_X11_isShip (nx := 6) rfl rfl rfl rfl ?_
    obtain ⟨a5, e5, p5⟩ := hI.2.2.2.1.1
    refine ev_getR f_X11_isShip (nx := 9) rfl (hI.wf.s rfl) rfl rfl e5 rfl rfl ?_
    obtain ⟨a6, e6, p6⟩ := p5.2.2.2.2.1
    refine ev_getR f_X11_isShip (nx := 12) rfl p5.1 rfl rfl e6 rfl rfl ?_
    refine ev_getI f_X11_isShip (nx := 15) rfl p6.1 rfl rfl rfl ?_
    obtain ⟨l7, u7⟩ := hI.b p6.1 (t_bdK rfl : t_bd 3 0 = some (0, 6))
    refine ev_if f_X11_isShip (t1 := 22) (t2 := 18) rfl rfl rfl (fun h8 => ?_) (fun h8 => ?_)
    · have r9 : (gi a6 0).toInt ≤ ar1.toInt := Int32.le_iff_toInt_le.mp h8
      refine ev_ic f_X11_isShip (nx := 23) (v := 0) rfl (by decide) rfl ?_
      refine ev_retK1 f_X11_isShip rfl rfl rfl ?_
      refine ev_t f_X11_nextShip (t1 := 8) (t2 := 15) rfl rfl rfl (by decide) ?_
      refine ev_loc f_X11_nextShip (nx := 9) rfl rfl rfl rfl ?_
      refine ev_bp f_X11_nextShip (nx := 11) (v := 6) rfl (by decide) rfl ?_
      refine ev_inV2 f_X11_nextShip (nx := 14) (lo2 := [(0, .ref 0), (1, .int 6)]) rfl rfl rfl rfl f_X11_refuse (hI.wf.s rfl) rfl rfl rfl rfl rfl ?_
      refine ev_loc f_X11_refuse (nx := 1) rfl rfl rfl rfl ?_
      refine ev_loc f_X11_refuse (nx := 2) rfl rfl rfl rfl ?_
      refine ev_putIT f_X11_refuse (nx := 5) rfl (hI.wf.s rfl) rfl rfl rfl (hI.put0 (hI.wf.s rfl) rfl rfl) (hX.upI rfl) (fun g10 e10 hI hX => ?_)
      refine ev_ic f_X11_refuse (nx := 6) (v := -1) rfl (by decide) rfl ?_
      refine ev_retK1 f_X11_refuse rfl rfl rfl ?_
      exact ev_ret f_X11_nextShip rfl rfl rfl ⟨_, _, _, rfl, hI, hX, ⟨_, rfl, (Int.le_trans (by decide : ((-2147483648):Int) ≤ (-1)) (by decide : ((-1):Int) ≤ ((-1):Int32).toInt)), (Int.le_trans (by decide : ((-1):Int32).toInt ≤ ((-1):Int)) (by decide : ((-1):Int) ≤ 2147483647)), (show ∀ (u : Nat) (D : s_D), gr 0 6 = .ref u → t_VL gr u → t_CV gi gl u D → t_Cb D → (u = 3 ∨ 102 ≤ u) → (∀ s : Nat, (s : Int) < D 1 → 0 ≤ D (56 + 5 * s) ∧ D (56 + 5 * s) ≤ 1) → ((0 ≤ ar1.toInt ∧ ar1.toInt < D 1) → ((-1) : Int) = ((s_or (s_A D) (D 1).toNat ar1.toNatClampNeg : Nat) : Int)) ∧ (¬ (0 ≤ ar1.toInt ∧ ar1.toInt < D 1) → ((-1) : Int) = -1) from (by
                                                            intro u D hu hl hc hb hv hsl
                                                            have ha : a5 = u := Value.ref.inj (e5.symm.trans hu)
                                                            subst ha
                                                            have hb1 : (a5 + 3) = a6 := Value.ref.inj ((hl.1.2.2.2.1).symm.trans e6)
                                                            subst hb1
                                                            have hm := hc.2.2.1.1
                                                            exact ⟨fun h => absurd h (by omega), fun _ => rfl⟩))⟩⟩
    · have r11 : ar1.toInt < (gi a6 0).toInt := Int32.lt_iff_toInt_lt.mp (t_nle h8)
      have u12 : ar1.toInt ≤ 5 := t_ltu (t_nle h8) u7 rfl
      have l13 : 1 ≤ (gi a6 0).toInt := t_ltl (t_nle h8) l4 rfl
      refine ev_ic f_X11_isShip (nx := 19) (v := 1) rfl (by decide) rfl ?_
      refine ev_jmp f_X11_isShip (nx := 23) rfl rfl rfl ?_
      refine ev_retK1 f_X11_isShip rfl rfl rfl ?_
      refine ev_f f_X11_nextShip (t1 := 8) (t2 := 15) rfl rfl rfl (by decide) ?_
      refine ev_loc f_X11_nextShip (nx := 16) rfl rfl rfl rfl ?_
      refine ev_getR f_X11_nextShip (nx := 19) rfl (hI.wf.s rfl) rfl rfl (hI.wf.r rfl) rfl rfl ?_
      refine ev_loc f_X11_nextShip (nx := 20) rfl rfl rfl rfl ?_
      refine ev_getR f_X11_nextShip (nx := 23) (v := .ref a5) rfl (hI.wf.s rfl) rfl rfl e5 rfl rfl ?_
      refine ev_ic f_X11_nextShip (nx := 24) (v := 0) rfl (by decide) rfl ?_
      refine ev_ic f_X11_nextShip (nx := 25) (v := -1) rfl (by decide) rfl ?_
      refine ev_ic f_X11_nextShip (nx := 26) (v := 0) rfl (by decide) rfl ?_
      refine ev_qN f_X11_nextShip (nx := 29) (r := []) rfl rfl rfl rfl rfl rfl rfl (c_d_takeShips hI (a5) p5) rfl hX rfl (fun gi14 gl14 gr14 hI hX hC14 q14 => ?_)
      have q14 : ∀ D : s_D, t_VL gr a5 → t_CV gi gl a5 D → (a5 = 3 ∨ 102 ≤ a5) → t_Cb D → (∀ s : Nat, (s : Int) < D 1 → 0 ≤ D (56 + 5 * s) ∧ D (56 + 5 * s) ≤ 1) → (gi14 29 0).toInt = D 1 ∧ s_RO (s_A D) (gi14 30) (D 1).toNat ∧ s_RM (s_A D) (gi14 31) (D 1).toNat ∧ s_RX (s_A D) (fun k => D (54 + 5 * k)) (gi14 32) (D 1).toNat ∧ s_RX (s_A D) (fun k => D (55 + 5 * k)) (gi14 33) (D 1).toNat ∧ s_RX (s_A D) (fun k => D (56 + 5 * k)) (gi14 34) (D 1).toNat := q14
      replace p5 := p5.ext hC14.2
      replace p6 := p6.ext hC14.2
      refine ev_loc f_X11_nextShip (nx := 30) rfl rfl rfl rfl ?_
      refine ev_loc f_X11_nextShip (nx := 31) rfl rfl rfl rfl ?_
      refine ev_getR f_X11_nextShip (nx := 34) rfl (hI.wf.s rfl) rfl rfl (hI.wf.r rfl) rfl rfl ?_
      refine ev_getR f_X11_nextShip (nx := 37) rfl (hI.wf.s rfl) rfl rfl (hI.wf.r rfl) rfl rfl ?_
      refine ev_getR f_X11_nextShip (nx := 40) rfl (hI.wf.s rfl) rfl rfl (hI.wf.r rfl) rfl rfl ?_
      refine ev_loc f_X11_nextShip (nx := 41) rfl rfl rfl rfl ?_
      refine ev_ialdT f_X11_nextShip (nx := 42) rfl (hI.wf.s rfl) l4 (by decide) u12 (by decide) rfl (fun w15 e15 => ?_)
      refine ev_inV2 f_X11_nextShip (nx := 45) (lo2 := [(0, .ref 0), (1, .int w15)]) rfl rfl rfl rfl f_X11_answer (hI.wf.s rfl) rfl rfl rfl rfl rfl ?_
      refine ev_loc f_X11_answer (nx := 1) rfl rfl rfl rfl ?_
      refine ev_ic f_X11_answer (nx := 2) (v := 0) rfl (by decide) rfl ?_
      refine ev_putIT f_X11_answer (nx := 5) rfl (hI.wf.s rfl) rfl rfl rfl (hI.put0 (hI.wf.s rfl) rfl rfl) (hX.upI rfl) (fun g16 e16 hI hX => ?_)
      refine ev_loc f_X11_answer (nx := 6) rfl rfl rfl rfl ?_
      refine ev_retK1 f_X11_answer rfl rfl rfl ?_
      exact ev_ret f_X11_nextShip rfl rfl rfl ⟨_, _, _, rfl, hI, hX, ⟨_, rfl, (t_lo w15), (t_hi w15), (show ∀ (u : Nat) (D : s_D), gr 0 6 = .ref u → t_VL gr u → t_CV gi gl u D → t_Cb D → (u = 3 ∨ 102 ≤ u) → (∀ s : Nat, (s : Int) < D 1 → 0 ≤ D (56 + 5 * s) ∧ D (56 + 5 * s) ≤ 1) → ((0 ≤ ar1.toInt ∧ ar1.toInt < D 1) → w15.toInt = ((s_or (s_A D) (D 1).toNat ar1.toNatClampNeg : Nat) : Int)) ∧ (¬ (0 ≤ ar1.toInt ∧ ar1.toInt < D 1) → w15.toInt = -1) from (by
                                                            intro u D hu hl hc hb hv hsl
                                                            have ha : a5 = u := Value.ref.inj (e5.symm.trans hu)
                                                            subst ha
                                                            have hb1 : (a5 + 3) = a6 := Value.ref.inj ((hl.1.2.2.2.1).symm.trans e6)
                                                            subst hb1
                                                            have hm := hc.2.2.1.1
                                                            have hq := q14 D hl hc hv hb hsl
                                                            have ka := t_clamp (i := ar1) (by omega)
                                                            refine ⟨fun _ => ?_, fun h => absurd (show _ from ⟨by omega, by omega⟩) h⟩
                                                            rw [e15]; exact hq.2.1 ar1.toNatClampNeg (by omega)))⟩⟩
noncomputable def wl_d_nextCart : List (Nat × Nat) := [(0, 0), (35, 0), (36, 9999), (37, 9999), (38, 9999), (39, 9999), (40, 9999)]
noncomputable def Q_d_nextCart (gi : Nat → Nat → Int32) (gl : Nat → Nat → Int64) (gr : Nat → Nat → Value) (ar1 : Int32) : Int32 → (Nat → Nat → Int32) → (Nat → Nat → Int64) → (Nat → Nat → Value) → Prop := fun (v : Int32) (gi2 : Nat → Nat → Int32) (gl2 : Nat → Nat → Int64) (gr2 : Nat → Nat → Value) => ∀ (u : Nat) (D : s_D), gr 0 6 = .ref u → t_VL gr u → t_CV gi gl u D → t_Cb D → (u = 3 ∨ 102 ≤ u) → ((0 ≤ ar1.toInt ∧ ar1.toInt < D 2) → v.toInt = ((s_or (s_B D) (D 2).toNat ar1.toNatClampNeg : Nat) : Int)) ∧ (¬ (0 ≤ ar1.toInt ∧ ar1.toInt < D 2) → v.toInt = -1)
theorem c_d_nextCart {X : x_Ext} {d : Nat} {sh : List (Nat ⊕ (Nat × Nat))} {gi : Nat → Nat → Int32} {gl : Nat → Nat → Int64} {gr : Nat → Nat → Value} (hI : t_I sh gi gr) (ar1 : Int32) : x_Me X (d + 4) n_X11_nextCart [.ref 0, .int ar1] (sh, gi, gl, gr) (t_PI wl_d_nextCart sh gi gl gr (-2147483648) 2147483647 (Q_d_nextCart gi gl gr ar1)) := by
  have hX : t_X wl_d_nextCart sh gi gl gr gi gl gr := t_X.rf
  refine me_i f_X11_nextCart (hI.wf.s rfl) rfl rfl rfl ?_
  refine ev_loc f_X11_nextCart (nx := 1) rfl rfl rfl rfl ?_
  refine ev_loc f_X11_nextCart (nx := 2) rfl rfl rfl rfl ?_
  refine ev_inV2 f_X11_nextCart (nx := 5) (lo2 := [(0, .ref 0), (1, .int ar1)]) rfl rfl rfl rfl f_X11_isCart (hI.wf.s rfl) rfl rfl rfl rfl rfl ?_
  refine ev_loc f_X11_isCart (nx := 1) rfl rfl rfl rfl ?_
  refine ev_if f_X11_isCart (t1 := 22) (t2 := 4) rfl rfl rfl (fun h1 => ?_) (fun h1 => ?_)
  · have u2 : ar1.toInt ≤ (-1) := t_ltu h1 (by decide : (0:Int32).toInt ≤ (0:Int)) rfl
    refine ev_ic f_X11_isCart (nx := 23) (v := 0) rfl (by decide) rfl ?_
    refine ev_retK1 f_X11_isCart rfl rfl rfl ?_
    refine ev_t f_X11_nextCart (t1 := 8) (t2 := 15) rfl rfl rfl (by decide) ?_
    refine ev_loc f_X11_nextCart (nx := 9) rfl rfl rfl rfl ?_
    refine ev_bp f_X11_nextCart (nx := 11) (v := 6) rfl (by decide) rfl ?_
    refine ev_inV2 f_X11_nextCart (nx := 14) (lo2 := [(0, .ref 0), (1, .int 6)]) rfl rfl rfl rfl f_X11_refuse (hI.wf.s rfl) rfl rfl rfl rfl rfl ?_
    refine ev_loc f_X11_refuse (nx := 1) rfl rfl rfl rfl ?_
    refine ev_loc f_X11_refuse (nx := 2) rfl rfl rfl rfl ?_
    refine ev_putIT f_X11_refuse (nx := 5) rfl (hI.wf.s rfl) rfl rfl rfl (hI.put0 (hI.wf.s rfl) rfl rfl) (hX.upI rfl) (fun g3 e3 hI hX => ?_)
    refine ev_ic f_X11_refuse (nx := 6) (v := -1) rfl (by decide) rfl ?_
    refine ev_retK1 f_X11_refuse rfl rfl rfl ?_
    exact ev_ret f_X11_nextCart rfl rfl rfl ⟨_, _, _, rfl, hI, hX, ⟨_, rfl, (Int.le_trans (by decide : ((-2147483648):Int) ≤ (-1)) (by decide : ((-1):Int) ≤ ((-1):Int32).toInt)), (Int.le_trans (by decide : ((-1):Int32).toInt ≤ ((-1):Int)) (by decide : ((-1):Int) ≤ 2147483647)), (show ∀ (u : Nat) (D : s_D), gr 0 6 = .ref u → t_VL gr u → t_CV gi gl u D → t_Cb D → (u = 3 ∨ 102 ≤ u) → ((0 ≤ ar1.toInt ∧ ar1.toInt < D 2) → ((-1) : Int) = ((s_or (s_B D) (D 2).toNat ar1.toNatClampNeg : Nat) : Int)) ∧ (¬ (0 ≤ ar1.toInt ∧ ar1.toInt < D 2) → ((-1) : Int) = -1) from (by
                                                            intro u D hu hl hc hb hv
                                                            have hm := hc.2.2.2.1
                                                            exact ⟨fun h => absurd h (by omega), fun _ => rfl⟩))⟩⟩
  · have l4 : 0 ≤ ar1.toInt := t_lel (t_nlt h1) (by decide : (0:Int) ≤ (0:Int32).toInt)
    refine ev_loc f_X11_isCart (nx := 5) rfl rfl rfl rfl ?_
    refine ev_loc f_X11_isCart (nx := 6) rfl rfl rfl rfl ?_
    obtain ⟨a5, e5, p5⟩ := hI.2.2.2.1.1
    refine ev_getR f_X11_isCart (nx := 9) rfl (hI.wf.s rfl) rfl rfl e5 rfl rfl ?_
    obtain ⟨a6, e6, p6⟩ := p5.2.2.2.2.2
    refine ev_getR f_X11_isCart (nx := 12) rfl p5.1 rfl rfl e6 rfl rfl ?_
    refine ev_getI f_X11_isCart (nx := 15) rfl p6.1 rfl rfl rfl ?_
    obtain ⟨l7, u7⟩ := hI.b p6.1 (t_bdK rfl : t_bd 3 0 = some (0, 6))
    refine ev_if f_X11_isCart (t1 := 22) (t2 := 18) rfl rfl rfl (fun h8 => ?_) (fun h8 => ?_)
    · have r9 : (gi a6 0).toInt ≤ ar1.toInt := Int32.le_iff_toInt_le.mp h8
      refine ev_ic f_X11_isCart (nx := 23) (v := 0) rfl (by decide) rfl ?_
      refine ev_retK1 f_X11_isCart rfl rfl rfl ?_
      refine ev_t f_X11_nextCart (t1 := 8) (t2 := 15) rfl rfl rfl (by decide) ?_
      refine ev_loc f_X11_nextCart (nx := 9) rfl rfl rfl rfl ?_
      refine ev_bp f_X11_nextCart (nx := 11) (v := 6) rfl (by decide) rfl ?_
      refine ev_inV2 f_X11_nextCart (nx := 14) (lo2 := [(0, .ref 0), (1, .int 6)]) rfl rfl rfl rfl f_X11_refuse (hI.wf.s rfl) rfl rfl rfl rfl rfl ?_
      refine ev_loc f_X11_refuse (nx := 1) rfl rfl rfl rfl ?_
      refine ev_loc f_X11_refuse (nx := 2) rfl rfl rfl rfl ?_
      refine ev_putIT f_X11_refuse (nx := 5) rfl (hI.wf.s rfl) rfl rfl rfl (hI.put0 (hI.wf.s rfl) rfl rfl) (hX.upI rfl) (fun g10 e10 hI hX => ?_)
      refine ev_ic f_X11_refuse (nx := 6) (v := -1) rfl (by decide) rfl ?_
      refine ev_retK1 f_X11_refuse rfl rfl rfl ?_
      exact ev_ret f_X11_nextCart rfl rfl rfl ⟨_, _, _, rfl, hI, hX, ⟨_, rfl, (Int.le_trans (by decide : ((-2147483648):Int) ≤ (-1)) (by decide : ((-1):Int) ≤ ((-1):Int32).toInt)), (Int.le_trans (by decide : ((-1):Int32).toInt ≤ ((-1):Int)) (by decide : ((-1):Int) ≤ 2147483647)), (show ∀ (u : Nat) (D : s_D), gr 0 6 = .ref u → t_VL gr u → t_CV gi gl u D → t_Cb D → (u = 3 ∨ 102 ≤ u) → ((0 ≤ ar1.toInt ∧ ar1.toInt < D 2) → ((-1) : Int) = ((s_or (s_B D) (D 2).toNat ar1.toNatClampNeg : Nat) : Int)) ∧ (¬ (0 ≤ ar1.toInt ∧ ar1.toInt < D 2) → ((-1) : Int) = -1) from (by
                                                            intro u D hu hl hc hb hv
                                                            have ha : a5 = u := Value.ref.inj (e5.symm.trans hu)
                                                            subst ha
                                                            have hb1 : (a5 + 10) = a6 := Value.ref.inj ((hl.1.2.2.2.2).symm.trans e6)
                                                            subst hb1
                                                            have hm := hc.2.2.2.1
                                                            exact ⟨fun h => absurd h (by omega), fun _ => rfl⟩))⟩⟩
    · have r11 : ar1.toInt < (gi a6 0).toInt := Int32.lt_iff_toInt_lt.mp (t_nle h8)
      have u12 : ar1.toInt ≤ 5 := t_ltu (t_nle h8) u7 rfl
      have l13 : 1 ≤ (gi a6 0).toInt := t_ltl (t_nle h8) l4 rfl
      refine ev_ic f_X11_isCart (nx := 19) (v := 1) rfl (by decide) rfl ?_
      refine ev_jmp f_X11_isCart (nx := 23) rfl rfl rfl ?_
      refine ev_retK1 f_X11_isCart rfl rfl rfl ?_
      refine ev_f f_X11_nextCart (t1 := 8) (t2 := 15) rfl rfl rfl (by decide) ?_
      refine ev_loc f_X11_nextCart (nx := 16) rfl rfl rfl rfl ?_
      refine ev_getR f_X11_nextCart (nx := 19) rfl (hI.wf.s rfl) rfl rfl (hI.wf.r rfl) rfl rfl ?_
      refine ev_loc f_X11_nextCart (nx := 20) rfl rfl rfl rfl ?_
      refine ev_getR f_X11_nextCart (nx := 23) (v := .ref a5) rfl (hI.wf.s rfl) rfl rfl e5 rfl rfl ?_
      refine ev_ic f_X11_nextCart (nx := 24) (v := -1) rfl (by decide) rfl ?_
      refine ev_qN f_X11_nextCart (nx := 27) (r := []) rfl rfl rfl rfl rfl rfl rfl (c_d_takeCarts hI (a5) p5) rfl hX rfl (fun gi14 gl14 gr14 hI hX hC14 q14 => ?_)
      have q14 : ∀ D : s_D, t_VL gr a5 → t_CV gi gl a5 D → (a5 = 3 ∨ 102 ≤ a5) → t_Cb D → (gi14 35 0).toInt = D 2 ∧ s_RO (s_B D) (gi14 36) (D 2).toNat ∧ s_RM (s_B D) (gi14 37) (D 2).toNat ∧ s_RX (s_B D) (fun k => D (83 + 3 * k)) (gi14 38) (D 2).toNat ∧ s_RX (s_B D) (fun k => D (84 + 3 * k)) (gi14 39) (D 2).toNat ∧ s_RX (s_B D) (fun _ => 0) (gi14 40) (D 2).toNat := q14
      replace p5 := p5.ext hC14.2
      replace p6 := p6.ext hC14.2
      refine ev_loc f_X11_nextCart (nx := 28) rfl rfl rfl rfl ?_
      refine ev_loc f_X11_nextCart (nx := 29) rfl rfl rfl rfl ?_
      refine ev_getR f_X11_nextCart (nx := 32) rfl (hI.wf.s rfl) rfl rfl (hI.wf.r rfl) rfl rfl ?_
      refine ev_getR f_X11_nextCart (nx := 35) rfl (hI.wf.s rfl) rfl rfl (hI.wf.r rfl) rfl rfl ?_
      refine ev_getR f_X11_nextCart (nx := 38) rfl (hI.wf.s rfl) rfl rfl (hI.wf.r rfl) rfl rfl ?_
      refine ev_loc f_X11_nextCart (nx := 39) rfl rfl rfl rfl ?_
      refine ev_ialdT f_X11_nextCart (nx := 40) rfl (hI.wf.s rfl) l4 (by decide) u12 (by decide) rfl (fun w15 e15 => ?_)
      refine ev_inV2 f_X11_nextCart (nx := 43) (lo2 := [(0, .ref 0), (1, .int w15)]) rfl rfl rfl rfl f_X11_answer (hI.wf.s rfl) rfl rfl rfl rfl rfl ?_
      refine ev_loc f_X11_answer (nx := 1) rfl rfl rfl rfl ?_
      refine ev_ic f_X11_answer (nx := 2) (v := 0) rfl (by decide) rfl ?_
      refine ev_putIT f_X11_answer (nx := 5) rfl (hI.wf.s rfl) rfl rfl rfl (hI.put0 (hI.wf.s rfl) rfl rfl) (hX.upI rfl) (fun g16 e16 hI hX => ?_)
      refine ev_loc f_X11_answer (nx := 6) rfl rfl rfl rfl ?_
      refine ev_retK1 f_X11_answer rfl rfl rfl ?_
      exact ev_ret f_X11_nextCart rfl rfl rfl ⟨_, _, _, rfl, hI, hX, ⟨_, rfl, (t_lo w15), (t_hi w15), (show ∀ (u : Nat) (D : s_D), gr 0 6 = .ref u → t_VL gr u → t_CV gi gl u D → t_Cb D → (u = 3 ∨ 102 ≤ u) → ((0 ≤ ar1.toInt ∧ ar1.toInt < D 2) → w15.toInt = ((s_or (s_B D) (D 2).toNat ar1.toNatClampNeg : Nat) : Int)) ∧ (¬ (0 ≤ ar1.toInt ∧ ar1.toInt < D 2) → w15.toInt = -1) from (by
                                                            intro u D hu hl hc hb hv
                                                            have ha : a5 = u := Value.ref.inj (e5.symm.trans hu)
                                                            subst ha
                                                            have hb1 : (a5 + 10) = a6 := Value.ref.inj ((hl.1.2.2.2.2).symm.trans e6)
                                                            subst hb1
                                                            have hm := hc.2.2.2.1
                                                            have hq := q14 D hl hc hv hb
                                                            have ka := t_clamp (i := ar1) (by omega)
                                                            refine ⟨fun _ => ?_, fun h => absurd (show _ from ⟨by omega, by omega⟩) h⟩
                                                            rw [e15]; exact hq.2.1 ar1.toNatClampNeg (by omega)))⟩⟩
