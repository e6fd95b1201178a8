/-! ===== printed by riv.py: READINGS: the other side ===== -/
noncomputable def wl_n_reads : List (Nat × Nat) := [(69, 29), (78, 9999), (79, 9999), (80, 9999)]
noncomputable def Q_n_reads (gi : Nat → Nat → Int32) (gl : Nat → Nat → Int64) (gr : Nat → Nat → Value) (ar1 : Int32) (ar2 : Int32) (ar3 : Int32) : (Nat → Nat → Int32) → (Nat → Nat → Int64) → (Nat → Nat → Value) → Prop := fun (gi2 : Nat → Nat → Int32) (gl2 : Nat → Nat → Int64) (gr2 : Nat → Nat → Value) => (gi2 69 29).toInt = (gi 69 29).toInt + 1 ∧ (∀ (L : s_RL) (t : Int × Int × Int), s_S2 gi L → ar1.toInt = t.1 → ar2.toInt = t.2.1 → ar3.toInt = t.2.2 → s_S2 gi2 (L ++ [t]))
theorem c_n_reads {X : x_Ext} {d : Nat} {sh : List (Nat ⊕ (Nat × Nat))} {gi : Nat → Nat → Int32} {gl : Nat → Nat → Int64} {gr : Nat → Nat → Value} (hI : t_I sh gi gr) (ar1 : Int32) (ar2 : Int32) (ar3 : Int32) (e_p0 : (gi 69 29).toInt ≤ 499) : x_Me X (d + 1) n_X12_reads [.ref 69, .int ar1, .int ar2, .int ar3] (sh, gi, gl, gr) (t_PN wl_n_reads sh gi gl gr (Q_n_reads gi gl gr ar1 ar2 ar3)) := by
  have hX : t_X wl_n_reads sh gi gl gr gi gl gr := t_X.rf
  refine me_i f_X12_reads (hI.wf.s rfl) rfl rfl rfl ?_
  obtain ⟨l1, u1⟩ := hI.b (hI.wf.s (k := 69) rfl) (t_bdK rfl : t_bd 11 29 = some (0, 500))
  refine ev_loc f_X12_reads (nx := 1) rfl rfl rfl rfl ?_
  refine ev_getR f_X12_reads (nx := 4) rfl (hI.wf.s rfl) rfl rfl (hI.wf.r rfl) rfl rfl ?_
  refine ev_loc f_X12_reads (nx := 5) rfl rfl rfl rfl ?_
  refine ev_gvI f_X12_reads (nx := 8) (w := (gi 69 29)) rfl (hI.wf.s rfl) rfl rfl rfl rfl ?_
  refine ev_loc f_X12_reads (nx := 9) rfl rfl rfl rfl ?_
  have u3 : (gi 69 29).toInt ≤ (499:Int) := (by omega)
  refine ev_iastT f_X12_reads (nx := 10) rfl (hI.wf.s rfl) l1 (by decide) u3 (by decide) rfl (hI.astG (hI.wf.s rfl) (fun lo hi e => absurd e (t_nob (by decide +kernel) _)) (fun k hk e => by have := hk.2.1; omega)) (hX.upI (t_inA_ok rfl)) (fun g2 e2 hI hX => ?_)
  refine ev_loc f_X12_reads (nx := 11) rfl rfl rfl rfl ?_
  refine ev_getR f_X12_reads (nx := 14) rfl (hI.wf.s rfl) rfl rfl (hI.wf.r rfl) rfl rfl ?_
  refine ev_loc f_X12_reads (nx := 15) rfl rfl rfl rfl ?_
  refine ev_gvI f_X12_reads (nx := 18) (w := (gi 69 29)) rfl (hI.wf.s rfl) rfl rfl ((by rw [e2]; exact x_up2_off (Or.inl (by decide)) : g2 69 29 = gi 69 29).trans rfl) rfl ?_
  refine ev_loc f_X12_reads (nx := 19) rfl rfl rfl rfl ?_
  refine ev_iastT f_X12_reads (nx := 20) rfl (hI.wf.s rfl) l1 (by decide) u3 (by decide) rfl (hI.astG (hI.wf.s rfl) (fun lo hi e => absurd e (t_nob (by decide +kernel) _)) (fun k hk e => by have := hk.2.1; omega)) (hX.upI (t_inA_ok rfl)) (fun g4 e4 hI hX => ?_)
  refine ev_loc f_X12_reads (nx := 21) rfl rfl rfl rfl ?_
  refine ev_getR f_X12_reads (nx := 24) rfl (hI.wf.s rfl) rfl rfl (hI.wf.r rfl) rfl rfl ?_
  refine ev_loc f_X12_reads (nx := 25) rfl rfl rfl rfl ?_
  refine ev_gvI f_X12_reads (nx := 28) (w := (gi 69 29)) rfl (hI.wf.s rfl) rfl rfl ((by rw [e4]; exact x_up2_off (Or.inl (by decide)) : g4 69 29 = g2 69 29).trans ((by rw [e2]; exact x_up2_off (Or.inl (by decide)) : g2 69 29 = gi 69 29).trans rfl)) rfl ?_
  refine ev_loc f_X12_reads (nx := 29) rfl rfl rfl rfl ?_
  refine ev_iastT f_X12_reads (nx := 30) rfl (hI.wf.s rfl) l1 (by decide) u3 (by decide) rfl (hI.astG (hI.wf.s rfl) (fun lo hi e => absurd e (t_nob (by decide +kernel) _)) (fun k hk e => by have := hk.2.1; omega)) (hX.upI (t_inA_ok rfl)) (fun g5 e5 hI hX => ?_)
  refine ev_loc f_X12_reads (nx := 31) rfl rfl rfl rfl ?_
  refine ev_alu f_X12_reads (nx := 32) rfl rfl rfl rfl ?_
  refine ev_gvI f_X12_reads (nx := 35) (w := (gi 69 29)) rfl (hI.wf.s rfl) rfl rfl ((by rw [e5]; exact x_up2_off (Or.inl (by decide)) : g5 69 29 = g4 69 29).trans ((by rw [e4]; exact x_up2_off (Or.inl (by decide)) : g4 69 29 = g2 69 29).trans ((by rw [e2]; exact x_up2_off (Or.inl (by decide)) : g2 69 29 = gi 69 29).trans rfl))) rfl ?_
  refine ev_ic f_X12_reads (nx := 36) (v := 1) rfl (by decide) rfl ?_
  refine ev_addC f_X12_reads (nx := 37) (c := 1) (l := 1) (u := 500) rfl (by decide) l1 u3 rfl rfl (by decide) (by decide) rfl (fun z6 e6 l6 u6 => ?_)
  refine ev_putIT f_X12_reads (nx := 40) rfl (hI.wf.s rfl) rfl rfl rfl (hI.putB (hI.wf.s rfl) rfl rfl l6 (by decide) u6 (by decide)) (hX.upI rfl) (fun g7 e7 hI hX => ?_)
  exact ev_ret f_X12_reads rfl rfl rfl ⟨_, _, _, rfl, hI, hX, ⟨rfl, (show (g7 69 29).toInt = (gi 69 29).toInt + 1 ∧ (∀ (L : s_RL) (t : Int × Int × Int), s_S2 gi L → ar1.toInt = t.1 → ar2.toInt = t.2.1 → ar3.toInt = t.2.2 → s_S2 g7 (L ++ [t])) from (by
                                                            refine ⟨by have ff8 : (g7 69 29).toInt = z6.toInt := congrArg Int32.toInt (by rw [e7]; exact x_up2_at _ _ _ _ : g7 69 29 = z6); omega, ?_⟩
                                                            intro L t h h1 h2 h3
                                                            exact s_S2_add h e2 e4 e5 e7 rfl (by omega) h1 h2 h3))⟩⟩
noncomputable def wl_l_findsReadings : List (Nat × Nat) := [(69, 29), (78, 9999), (79, 9999), (80, 9999)]
noncomputable def Q_l_findsReadings (gi : Nat → Nat → Int32) (gl : Nat → Nat → Int64) (gr : Nat → Nat → Value) (ar1 : Int64) : (Nat → Nat → Int32) → (Nat → Nat → Int64) → (Nat → Nat → Value) → Prop := fun (gi2 : Nat → Nat → Int32) (gl2 : Nat → Nat → Int64) (gr2 : Nat → Nat → Value) => (gi2 69 29).toInt ≤ 474 ∧ (∀ j, gi2 70 j = gi 70 j) ∧ (∀ D : s_D, t_ME 0 gi D → t_Cb D → s_S2 gi2 (s_rL D ar1))
theorem c_l_findsReadings {X : x_Ext} {d : Nat} {sh : List (Nat ⊕ (Nat × Nat))} {gi : Nat → Nat → Int32} {gl : Nat → Nat → Int64} {gr : Nat → Nat → Value} (hI : t_I sh gi gr) (ar1 : Int64) : x_Me X (d + 4) n_X12_findsReadings [.ref 69, .long ar1] (sh, gi, gl, gr) (t_PN wl_l_findsReadings sh gi gl gr (Q_l_findsReadings gi gl gr ar1)) := by
  have hX : t_X wl_l_findsReadings sh gi gl gr gi gl gr := t_X.rf
  refine me_i f_X12_findsReadings (hI.wf.s rfl) rfl rfl rfl ?_
  obtain ⟨l1, u1⟩ := hI.b (hI.wf.s (k := 69) rfl) (t_bdK rfl : t_bd 11 29 = some (0, 500))
  refine ev_loc f_X12_findsReadings (nx := 1) rfl rfl rfl rfl ?_
  refine ev_ic f_X12_findsReadings (nx := 2) (v := 0) rfl (by decide) rfl ?_
  refine ev_putIT f_X12_findsReadings (nx := 5) rfl (hI.wf.s rfl) rfl rfl rfl (hI.putB (hI.wf.s rfl) rfl rfl (by decide : (0:Int) ≤ (0:Int32).toInt) (by decide) (by decide : (0:Int32).toInt ≤ (0:Int)) (by decide)) (hX.upI rfl) (fun g2 e2 hI hX => ?_)
  refine ev_loc f_X12_findsReadings (nx := 6) rfl rfl rfl rfl ?_
  refine ev_getR f_X12_findsReadings (nx := 9) rfl (hI.wf.s rfl) rfl rfl (hI.wf.r rfl) rfl rfl ?_
  refine ev_ic f_X12_findsReadings (nx := 10) (v := 0) rfl (by decide) rfl ?_
  obtain ⟨l3, u3⟩ := hI.ab (by decide +kernel : t_abr 70 0 0 0 6 = true) (Nat.le_refl _) (Nat.le_refl _)
  refine ev_ialdv f_X12_findsReadings (nx := 11) (w := (g2 70 0)) rfl (hI.wf.s rfl) (by decide) (rfl : (0 : Int32).toNatClampNeg = 0) (by decide) rfl rfl ?_
  refine ev_loc f_X12_findsReadings (nx := 12) (lo' := [(3, .int (g2 70 0)), (0, .ref 69), (1, .long ar1)]) rfl rfl rfl rfl ?_
  refine ev_ic f_X12_findsReadings (nx := 13) (v := 0) rfl (by decide) rfl ?_
  refine ev_loc f_X12_findsReadings (nx := 15) (lo' := [(4, .int 0), (3, .int (g2 70 0)), (0, .ref 69), (1, .long ar1)]) rfl rfl rfl rfl ?_
  have L4 : ∀ (m4 : Nat) (gi4 : Nat → Nat → Int32) (gl4 : Nat → Nat → Int64) (gr4 : Nat → Nat → Value) (y4_4 : Int32), t_I sh gi4 gr4 → t_X wl_l_findsReadings sh gi gl gr gi4 gl4 gr4 → 0 ≤ y4_4.toInt → y4_4.toInt ≤ 6 → gi4 70 0 = (g2 70 0) → (gi4 69 29).toInt ≤ y4_4.toInt → (∀ j, gi4 70 j = gi 70 j) → (∀ D : s_D, t_ME 0 gi D → t_Cb D → s_RI (s_S2 gi4) (s_R1 D ar1 y4_4.toInt) (s_rL D ar1) ∧ (g2 70 0).toInt = D 0) → (6 - y4_4.toInt).toNat = m4 → x_Ev X (d + 4) n_X12_findsReadings 15 [(4, .int y4_4), (3, .int (g2 70 0)), (0, .ref 69), (1, .long ar1)] [] (sh, gi4, gl4, gr4) (t_PN wl_l_findsReadings sh gi gl gr (Q_l_findsReadings gi gl gr ar1)) := by
    intro m4
    induction m4 using Nat.strongRecOn with
    | _ m4 ih4 =>
    intro gi4 gl4 gr4 y4_4 hI hX l4_4 u4_4 c4_0 j4_0 j4_1 j4_2 hm4
    obtain ⟨l5, u5⟩ := hI.b (hI.wf.s (k := 69) rfl) (t_bdK rfl : t_bd 11 29 = some (0, 500))
    refine ev_loc f_X12_findsReadings (nx := 17) rfl rfl rfl rfl ?_
    refine ev_loc f_X12_findsReadings (nx := 18) rfl rfl rfl rfl ?_
    refine ev_if f_X12_findsReadings (t1 := 46) (t2 := 21) rfl rfl rfl (fun h6 => ?_) (fun h6 => ?_)
    · have r7 : (g2 70 0).toInt ≤ y4_4.toInt := Int32.le_iff_toInt_le.mp h6
      refine ev_ic f_X12_findsReadings (nx := 47) (v := 0) rfl (by decide) rfl ?_
      refine ev_loc f_X12_findsReadings (nx := 49) (lo' := [(4, .int 0), (3, .int (g2 70 0)), (0, .ref 69), (1, .long ar1)]) rfl rfl rfl rfl ?_
      have L8 : ∀ (m8 : Nat) (gi8 : Nat → Nat → Int32) (gl8 : Nat → Nat → Int64) (gr8 : Nat → Nat → Value) (y8_4 : Int32), t_I sh gi8 gr8 → t_X wl_l_findsReadings sh gi gl gr gi8 gl8 gr8 → 0 ≤ y8_4.toInt → y8_4.toInt ≤ 6 → gi8 70 0 = (g2 70 0) → (gi8 69 29).toInt ≤ 6 + 78 * y8_4.toInt → (∀ j, gi8 70 j = gi 70 j) → (∀ D : s_D, t_ME 0 gi D → t_Cb D → s_RI (s_S2 gi8) (s_R2 D ar1 y8_4.toInt) (s_rL D ar1) ∧ (g2 70 0).toInt = D 0) → (6 - y8_4.toInt).toNat = m8 → x_Ev X (d + 4) n_X12_findsReadings 49 [(4, .int y8_4), (3, .int (g2 70 0)), (0, .ref 69), (1, .long ar1)] [] (sh, gi8, gl8, gr8) (t_PN wl_l_findsReadings sh gi gl gr (Q_l_findsReadings gi gl gr ar1)) := by
        intro m8
        induction m8 using Nat.strongRecOn with
        | _ m8 ih8 =>
        intro gi8 gl8 gr8 y8_4 hI hX l8_4 u8_4 c8_0 j8_0 j8_1 j8_2 hm8
        obtain ⟨l9, u9⟩ := hI.b (hI.wf.s (k := 69) rfl) (t_bdK rfl : t_bd 11 29 = some (0, 500))
        refine ev_loc f_X12_findsReadings (nx := 51) rfl rfl rfl rfl ?_
        refine ev_loc f_X12_findsReadings (nx := 52) rfl rfl rfl rfl ?_
        refine ev_if f_X12_findsReadings (t1 := 134) (t2 := 55) rfl rfl rfl (fun h10 => ?_) (fun h10 => ?_)
        · have r11 : (g2 70 0).toInt ≤ y8_4.toInt := Int32.le_iff_toInt_le.mp h10
          exact ev_ret f_X12_findsReadings rfl rfl rfl ⟨_, _, _, rfl, hI, hX, ⟨rfl, (show (gi8 69 29).toInt ≤ 474 ∧ (∀ j, gi8 70 j = gi 70 j) ∧ (∀ D : s_D, t_ME 0 gi D → t_Cb D → s_S2 gi8 (s_rL D ar1)) from ⟨(by omega), j8_1, (by
                                                            intro D hm hb
                                                            obtain ⟨g1, hn⟩ := j8_2 D hm hb
                                                            exact g1.fin (s_R2_e (by omega)))⟩)⟩⟩
        · have r12 : y8_4.toInt < (g2 70 0).toInt := Int32.lt_iff_toInt_lt.mp (t_nle h10)
          have u13 : y8_4.toInt ≤ 5 := t_ltu (t_nle h10) u3 rfl
          have l14 : 1 ≤ (g2 70 0).toInt := t_ltl (t_nle h10) l8_4 rfl
          refine ev_ic f_X12_findsReadings (nx := 56) (v := 0) rfl (by decide) rfl ?_
          refine ev_loc f_X12_findsReadings (nx := 58) (lo' := [(5, .int 0), (4, .int y8_4), (3, .int (g2 70 0)), (0, .ref 69), (1, .long ar1)]) rfl rfl rfl rfl ?_
          have L15 : ∀ (m15 : Nat) (gi15 : Nat → Nat → Int32) (gl15 : Nat → Nat → Int64) (gr15 : Nat → Nat → Value) (y15_5 : Int32), t_I sh gi15 gr15 → t_X wl_l_findsReadings sh gi gl gr gi15 gl15 gr15 → 0 ≤ y15_5.toInt → y15_5.toInt ≤ 6 → gi15 70 0 = (g2 70 0) → (gi15 69 29).toInt ≤ 6 + 78 * y8_4.toInt + 13 * y15_5.toInt → (∀ j, gi15 70 j = gi 70 j) → (∀ D : s_D, t_ME 0 gi D → t_Cb D → s_RI (s_S2 gi15) (s_R3 D ar1 y8_4.toInt y15_5.toInt) (s_rL D ar1) ∧ (g2 70 0).toInt = D 0 ∧ y8_4.toInt < D 0) → (6 - y15_5.toInt).toNat = m15 → x_Ev X (d + 4) n_X12_findsReadings 58 [(5, .int y15_5), (4, .int y8_4), (3, .int (g2 70 0)), (0, .ref 69), (1, .long ar1)] [] (sh, gi15, gl15, gr15) (t_PN wl_l_findsReadings sh gi gl gr (Q_l_findsReadings gi gl gr ar1)) := by
            intro m15
            induction m15 using Nat.strongRecOn with
            | _ m15 ih15 =>
            intro gi15 gl15 gr15 y15_5 hI hX l15_5 u15_5 c15_0 j15_0 j15_1 j15_2 hm15
            obtain ⟨l16, u16⟩ := hI.b (hI.wf.s (k := 69) rfl) (t_bdK rfl : t_bd 11 29 = some (0, 500))
            refine ev_loc f_X12_findsReadings (nx := 60) rfl rfl rfl rfl ?_
            refine ev_loc f_X12_findsReadings (nx := 61) rfl rfl rfl rfl ?_
            refine ev_if f_X12_findsReadings (t1 := 128) (t2 := 64) rfl rfl rfl (fun h17 => ?_) (fun h17 => ?_)
            · have r18 : (g2 70 0).toInt ≤ y15_5.toInt := Int32.le_iff_toInt_le.mp h17
              have l19 : 1 ≤ y15_5.toInt := t_lel h17 l14
              refine ev_incR f_X12_findsReadings (nx := 131) (c := 1) (l := 1) (u := 6) rfl rfl (by decide) (by decide) l8_4 u13 rfl rfl (by decide) (by decide) rfl (fun z20 e20 l20 u20 => ?_)
              refine ev_jmp f_X12_findsReadings (nx := 49) rfl rfl rfl ?_
              refine ev_sub (lo := [(4, .int z20), (3, .int (g2 70 0)), (0, .ref 69), (1, .long ar1)]) rfl (t_sc rfl (t_sc rfl (t_sc rfl (t_sc rfl t_sn)))) ?_
              exact ih8 _ (by omega) gi15 gl15 gr15 (z20) hI hX  (Int.le_trans (by decide : (0:Int) ≤ 1) l20) u20 c15_0 (by omega) j15_1 (by
                                                            intro D hm hb
                                                            obtain ⟨g1, hn, g2⟩ := j15_2 D hm hb
                                                            exact ⟨g1.cg ((s_R3_e (by omega)).trans (by rw [show z20.toInt = y8_4.toInt + 1 by omega])), hn⟩) rfl
            · have r21 : y15_5.toInt < (g2 70 0).toInt := Int32.lt_iff_toInt_lt.mp (t_nle h17)
              have u22 : y15_5.toInt ≤ 5 := t_ltu (t_nle h17) u3 rfl
              refine ev_loc f_X12_findsReadings (nx := 66) rfl rfl rfl rfl ?_
              refine ev_loc f_X12_findsReadings (nx := 68) rfl rfl rfl rfl ?_
              refine ev_if f_X12_findsReadings (t1 := 75) (t2 := 71) rfl rfl rfl (fun h23 => ?_) (fun h23 => ?_)
              · have r24 : y8_4.toInt ≤ y15_5.toInt := Int32.le_iff_toInt_le.mp h23
                refine ev_ic f_X12_findsReadings (nx := 76) (v := 0) rfl (by decide) rfl ?_
                refine ev_loc f_X12_findsReadings (nx := 78) (lo' := [(6, .int 0), (5, .int y15_5), (4, .int y8_4), (3, .int (g2 70 0)), (0, .ref 69), (1, .long ar1)]) rfl rfl rfl rfl ?_
                have L25 : ∀ (m25 : Nat) (gi25 : Nat → Nat → Int32) (gl25 : Nat → Nat → Int64) (gr25 : Nat → Nat → Value) (y25_6 : Int32), t_I sh gi25 gr25 → t_X wl_l_findsReadings sh gi gl gr gi25 gl25 gr25 → 0 ≤ y25_6.toInt → y25_6.toInt ≤ 13 → gi25 70 0 = (g2 70 0) → (gi25 69 29).toInt ≤ 6 + 78 * y8_4.toInt + 13 * y15_5.toInt + y25_6.toInt → (∀ j, gi25 70 j = gi 70 j) → (∀ D : s_D, t_ME 0 gi D → t_Cb D → s_RI (s_S2 gi25) (s_R4 D ar1 y8_4.toInt y15_5.toInt y25_6.toInt) (s_rL D ar1) ∧ (g2 70 0).toInt = D 0 ∧ y8_4.toInt < D 0 ∧ y15_5.toInt < D 0) → (13 - y25_6.toInt).toNat = m25 → x_Ev X (d + 4) n_X12_findsReadings 78 [(6, .int y25_6), (5, .int y15_5), (4, .int y8_4), (3, .int (g2 70 0)), (0, .ref 69), (1, .long ar1)] [] (sh, gi25, gl25, gr25) (t_PN wl_l_findsReadings sh gi gl gr (Q_l_findsReadings gi gl gr ar1)) := by
                  intro m25
                  induction m25 using Nat.strongRecOn with
                  | _ m25 ih25 =>
                  intro gi25 gl25 gr25 y25_6 hI hX l25_6 u25_6 c25_0 j25_0 j25_1 j25_2 hm25
                  obtain ⟨l26, u26⟩ := hI.b (hI.wf.s (k := 69) rfl) (t_bdK rfl : t_bd 11 29 = some (0, 500))
                  refine ev_loc f_X12_findsReadings (nx := 80) rfl rfl rfl rfl ?_
                  refine ev_bp f_X12_findsReadings (nx := 82) (v := 12) rfl (by decide) rfl ?_
                  refine ev_if f_X12_findsReadings (t1 := 122) (t2 := 85) rfl rfl rfl (fun h27 => ?_) (fun h27 => ?_)
                  · have l28 : 13 ≤ y25_6.toInt := t_ltl h27 (by decide : (12:Int) ≤ (12:Int32).toInt) rfl
                    refine ev_incR f_X12_findsReadings (nx := 125) (c := 1) (l := 1) (u := 6) rfl rfl (by decide) (by decide) l15_5 u22 rfl rfl (by decide) (by decide) rfl (fun z29 e29 l29 u29 => ?_)
                    refine ev_jmp f_X12_findsReadings (nx := 58) rfl rfl rfl ?_
                    refine ev_sub (lo := [(5, .int z29), (4, .int y8_4), (3, .int (g2 70 0)), (0, .ref 69), (1, .long ar1)]) rfl (t_sc rfl (t_sc rfl (t_sc rfl (t_sc rfl (t_sc rfl t_sn))))) ?_
                    exact ih15 _ (by omega) gi25 gl25 gr25 (z29) hI hX  (Int.le_trans (by decide : (0:Int) ≤ 1) l29) u29 c25_0 (by omega) j25_1 (by
                                                            intro D hm hb
                                                            obtain ⟨g1, hn, g2, g3⟩ := j25_2 D hm hb
                                                            exact ⟨g1.cg ((s_R4_e (by omega)).trans (by rw [show z29.toInt = y15_5.toInt + 1 by omega])), hn, by omega⟩) rfl
                  · have u30 : y25_6.toInt ≤ 12 := t_leu (t_nlt h27) (by decide : (12:Int32).toInt ≤ (12:Int))
                    refine ev_loc f_X12_findsReadings (nx := 86) rfl rfl rfl rfl ?_
                    refine ev_loc f_X12_findsReadings (nx := 88) rfl rfl rfl rfl ?_
                    refine ev_qL0 f_X12_findsReadings (nx := 91) (r := []) rfl rfl rfl rfl rfl rfl rfl (c_n_heardOf hI (y8_4) l8_4 u13) rfl (fun w31 q31 => ?_)
                    have q31 : (0 ≤ w31.toInt ∧ w31.toInt < 8589934592) ∧ ∀ D : s_D, t_ME 0 gi25 D → y8_4.toInt < D 0 → w31 = s_ec (s_so D y8_4.toNatClampNeg) (D 7) := q31
                    refine ev_loc f_X12_findsReadings (nx := 92) rfl rfl rfl rfl ?_
                    refine ev_loc f_X12_findsReadings (nx := 94) rfl rfl rfl rfl ?_
                    refine ev_qL0 f_X12_findsReadings (nx := 97) (r := [.long w31]) rfl rfl rfl rfl rfl rfl rfl (c_n_heardOf hI (y15_5) l15_5 u22) rfl (fun w32 q32 => ?_)
                    have q32 : (0 ≤ w32.toInt ∧ w32.toInt < 8589934592) ∧ ∀ D : s_D, t_ME 0 gi25 D → y15_5.toInt < D 0 → w32 = s_ec (s_so D y15_5.toNatClampNeg) (D 7) := q32
                    refine ev_loc f_X12_findsReadings (nx := 99) rfl rfl rfl rfl ?_
                    refine ev_anyLE f_X12_findsReadings (nx := 100) rfl rfl rfl rfl (fun z33 e33 => ?_)
                    refine ev_anyLE f_X12_findsReadings (nx := 101) rfl rfl rfl rfl (fun z34 e34 => ?_)
                    refine ev_loc f_X12_findsReadings (nx := 102) rfl rfl rfl rfl ?_
                    refine ev_anyIE f_X12_findsReadings (nx := 103) rfl rfl rfl rfl (fun z35 e35 => ?_)
                    refine ev_if f_X12_findsReadings (t1 := 106) (t2 := 116) rfl rfl rfl (fun h36 => ?_) (fun h36 => ?_)
                    · have u37 : z35.toInt ≤ 0 := t_equ h36 (by decide : (0:Int32).toInt ≤ (0:Int))
                      have l38 : 0 ≤ z35.toInt := t_eql h36 (by decide : (0:Int) ≤ (0:Int32).toInt)
                      refine ev_loc f_X12_findsReadings (nx := 107) rfl rfl rfl rfl ?_
                      refine ev_loc f_X12_findsReadings (nx := 109) rfl rfl rfl rfl ?_
                      refine ev_loc f_X12_findsReadings (nx := 111) rfl rfl rfl rfl ?_
                      refine ev_loc f_X12_findsReadings (nx := 113) rfl rfl rfl rfl ?_
                      refine ev_qN f_X12_findsReadings (nx := 116) (r := []) rfl rfl rfl rfl rfl rfl rfl (c_n_reads hI (y8_4) (y15_5) (y25_6) (by omega)) rfl hX rfl (fun gi39 gl39 gr39 hI hX hC39 q39 => ?_)
                      have q39 : (gi39 69 29).toInt = (gi25 69 29).toInt + 1 ∧ (∀ (L : s_RL) (t : Int × Int × Int), s_S2 gi25 L → y8_4.toInt = t.1 → y15_5.toInt = t.2.1 → y25_6.toInt = t.2.2 → s_S2 gi39 (L ++ [t])) := q39
                      obtain ⟨l40, u40⟩ := hI.b (hI.wf.s (k := 69) rfl) (t_bdK rfl : t_bd 11 29 = some (0, 500))
                      refine ev_incR f_X12_findsReadings (nx := 119) (c := 1) (l := 1) (u := 13) rfl rfl (by decide) (by decide) l25_6 u30 rfl rfl (by decide) (by decide) rfl (fun z41 e41 l41 u41 => ?_)
                      refine ev_jmp f_X12_findsReadings (nx := 78) rfl rfl rfl ?_
                      refine ev_sub (lo := [(6, .int z41), (5, .int y15_5), (4, .int y8_4), (3, .int (g2 70 0)), (0, .ref 69), (1, .long ar1)]) rfl (t_sc rfl (t_sc rfl (t_sc rfl (t_sc rfl (t_sc rfl (t_sc rfl t_sn)))))) ?_
                      exact ih25 _ (by omega) gi39 gl39 gr39 (z41) hI hX  (Int.le_trans (by decide : (0:Int) ≤ 1) l41) u41 ((hC39.1 70 0 rfl).1.trans c25_0) (by omega) (fun j => (congrFun ((funext (fun j => (hC39.1 70 j rfl).1) : gi39 70 = gi25 70)) j).trans (j25_1 j)) (by
                                                            intro D hm hb
                                                            obtain ⟨g1, hn, g2, g3⟩ := j25_2 D hm hb
                                                            have hmN : t_ME 0 gi25 D := hm.mv hb (fun j _ _ _ => j25_1 (0 + j))
                                                            have hw31 : w31 = s_hd D y8_4.toInt := (q31.2 D hmN (by omega)).trans ((s_hd_i (D := D) (p := y8_4.toInt) (by omega) (by omega)).trans (by rw [show y8_4.toInt.toNat = y8_4.toNatClampNeg from (by have := t_clamp (i := y8_4) (by omega); omega)])).symm
                                                            have hw32 : w32 = s_hd D y15_5.toInt := (q32.2 D hmN (by omega)).trans ((s_hd_i (D := D) (p := y15_5.toInt) (by omega) (by omega)).trans (by rw [show y15_5.toInt.toNat = y15_5.toNatClampNeg from (by have := t_clamp (i := y15_5) (by omega); omega)])).symm
                                                            have hv := s_bw_e hw31 hw32 e33 e34
                                                            have hne := (t_le0 e35 h36)
                                                            rw [hv] at hne
                                                            exact ⟨(g1.add (s_R4_y (by omega) hne) (fun L hL => q39.2 L _ hL rfl rfl rfl)).cg (by rw [show z41.toInt = y25_6.toInt + 1 by omega]), hn, g2, g3⟩) rfl
                    · have r42 : z35.toInt ≠ 0 := fun e => h36 (Int32.toInt_inj.mp (e.trans (by decide : (0:Int) = (0 : Int32).toInt)))
                      refine ev_incR f_X12_findsReadings (nx := 119) (c := 1) (l := 1) (u := 13) rfl rfl (by decide) (by decide) l25_6 u30 rfl rfl (by decide) (by decide) rfl (fun z43 e43 l43 u43 => ?_)
                      refine ev_jmp f_X12_findsReadings (nx := 78) rfl rfl rfl ?_
                      refine ev_sub (lo := [(6, .int z43), (5, .int y15_5), (4, .int y8_4), (3, .int (g2 70 0)), (0, .ref 69), (1, .long ar1)]) rfl (t_sc rfl (t_sc rfl (t_sc rfl (t_sc rfl (t_sc rfl (t_sc rfl t_sn)))))) ?_
                      exact ih25 _ (by omega) gi25 gl25 gr25 (z43) hI hX  (Int.le_trans (by decide : (0:Int) ≤ 1) l43) u43 c25_0 (by omega) j25_1 (by
                                                            intro D hm hb
                                                            obtain ⟨g1, hn, g2, g3⟩ := j25_2 D hm hb
                                                            have hmN : t_ME 0 gi25 D := hm.mv hb (fun j _ _ _ => j25_1 (0 + j))
                                                            have hw31 : w31 = s_hd D y8_4.toInt := (q31.2 D hmN (by omega)).trans ((s_hd_i (D := D) (p := y8_4.toInt) (by omega) (by omega)).trans (by rw [show y8_4.toInt.toNat = y8_4.toNatClampNeg from (by have := t_clamp (i := y8_4) (by omega); omega)])).symm
                                                            have hw32 : w32 = s_hd D y15_5.toInt := (q32.2 D hmN (by omega)).trans ((s_hd_i (D := D) (p := y15_5.toInt) (by omega) (by omega)).trans (by rw [show y15_5.toInt.toNat = y15_5.toNatClampNeg from (by have := t_clamp (i := y15_5) (by omega); omega)])).symm
                                                            have hv := s_bw_e hw31 hw32 e33 e34
                                                            have hne := (t_le1 e35 h36)
                                                            rw [hv] at hne
                                                            exact ⟨g1.cg ((s_R4_n (by omega) hne).trans (by rw [show z43.toInt = y25_6.toInt + 1 by omega])), hn, g2, g3⟩) rfl
                refine ev_sub (lo := [(6, .int 0), (5, .int y15_5), (4, .int y8_4), (3, .int (g2 70 0)), (0, .ref 69), (1, .long ar1)]) rfl (t_sc rfl (t_sc rfl (t_sc rfl (t_sc rfl (t_sc rfl (t_sc rfl t_sn)))))) ?_
                exact L25 _ gi15 gl15 gr15 (0) hI hX  (by decide : (0:Int) ≤ (0:Int32).toInt) (Int.le_trans (by decide : (0:Int32).toInt ≤ (0:Int)) (by decide : (0:Int) ≤ 13)) c15_0 (by have kf44 : (0 : Int32).toInt = 0 := (by decide); omega) j15_1 (by
                                                            intro D hm hb
                                                            obtain ⟨g1, hn, g2⟩ := j15_2 D hm hb
                                                            have hl2 : s_lb y8_4.toInt y15_5.toInt = (0 : Int32).toInt := s_lb_0 (by omega)
                                                            exact ⟨g1.cg ((s_R3_s (by omega)).trans (by rw [hl2])), hn, g2, by omega⟩) rfl
              · have r45 : y15_5.toInt < y8_4.toInt := Int32.lt_iff_toInt_lt.mp (t_nle h23)
                have u46 : y15_5.toInt ≤ 4 := t_ltu (t_nle h23) u13 rfl
                have l47 : 1 ≤ y8_4.toInt := t_ltl (t_nle h23) l15_5 rfl
                refine ev_ic f_X12_findsReadings (nx := 72) (v := 1) rfl (by decide) rfl ?_
                refine ev_jmp f_X12_findsReadings (nx := 76) rfl rfl rfl ?_
                refine ev_loc f_X12_findsReadings (nx := 78) (lo' := [(6, .int 1), (5, .int y15_5), (4, .int y8_4), (3, .int (g2 70 0)), (0, .ref 69), (1, .long ar1)]) rfl rfl rfl rfl ?_
                have L48 : ∀ (m48 : Nat) (gi48 : Nat → Nat → Int32) (gl48 : Nat → Nat → Int64) (gr48 : Nat → Nat → Value) (y48_6 : Int32), t_I sh gi48 gr48 → t_X wl_l_findsReadings sh gi gl gr gi48 gl48 gr48 → 0 ≤ y48_6.toInt → y48_6.toInt ≤ 13 → gi48 70 0 = (g2 70 0) → (gi48 69 29).toInt ≤ 6 + 78 * y8_4.toInt + 13 * y15_5.toInt + y48_6.toInt → (∀ j, gi48 70 j = gi 70 j) → (∀ D : s_D, t_ME 0 gi D → t_Cb D → s_RI (s_S2 gi48) (s_R4 D ar1 y8_4.toInt y15_5.toInt y48_6.toInt) (s_rL D ar1) ∧ (g2 70 0).toInt = D 0 ∧ y8_4.toInt < D 0 ∧ y15_5.toInt < D 0) → (13 - y48_6.toInt).toNat = m48 → x_Ev X (d + 4) n_X12_findsReadings 78 [(6, .int y48_6), (5, .int y15_5), (4, .int y8_4), (3, .int (g2 70 0)), (0, .ref 69), (1, .long ar1)] [] (sh, gi48, gl48, gr48) (t_PN wl_l_findsReadings sh gi gl gr (Q_l_findsReadings gi gl gr ar1)) := by
                  intro m48
                  induction m48 using Nat.strongRecOn with
                  | _ m48 ih48 =>
                  intro gi48 gl48 gr48 y48_6 hI hX l48_6 u48_6 c48_0 j48_0 j48_1 j48_2 hm48
                  obtain ⟨l49, u49⟩ := hI.b (hI.wf.s (k := 69) rfl) (t_bdK rfl : t_bd 11 29 = some (0, 500))
                  refine ev_loc f_X12_findsReadings (nx := 80) rfl rfl rfl rfl ?_
                  refine ev_bp f_X12_findsReadings (nx := 82) (v := 12) rfl (by decide) rfl ?_
                  refine ev_if f_X12_findsReadings (t1 := 122) (t2 := 85) rfl rfl rfl (fun h50 => ?_) (fun h50 => ?_)
                  · have l51 : 13 ≤ y48_6.toInt := t_ltl h50 (by decide : (12:Int) ≤ (12:Int32).toInt) rfl
                    refine ev_incR f_X12_findsReadings (nx := 125) (c := 1) (l := 1) (u := 5) rfl rfl (by decide) (by decide) l15_5 u46 rfl rfl (by decide) (by decide) rfl (fun z52 e52 l52 u52 => ?_)
                    refine ev_jmp f_X12_findsReadings (nx := 58) rfl rfl rfl ?_
                    refine ev_sub (lo := [(5, .int z52), (4, .int y8_4), (3, .int (g2 70 0)), (0, .ref 69), (1, .long ar1)]) rfl (t_sc rfl (t_sc rfl (t_sc rfl (t_sc rfl (t_sc rfl t_sn))))) ?_
                    exact ih15 _ (by omega) gi48 gl48 gr48 (z52) hI hX  (Int.le_trans (by decide : (0:Int) ≤ 1) l52) (Int.le_trans u52 (by decide : (5:Int) ≤ 6)) c48_0 (by omega) j48_1 (by
                                                            intro D hm hb
                                                            obtain ⟨g1, hn, g2, g3⟩ := j48_2 D hm hb
                                                            exact ⟨g1.cg ((s_R4_e (by omega)).trans (by rw [show z52.toInt = y15_5.toInt + 1 by omega])), hn, by omega⟩) rfl
                  · have u53 : y48_6.toInt ≤ 12 := t_leu (t_nlt h50) (by decide : (12:Int32).toInt ≤ (12:Int))
                    refine ev_loc f_X12_findsReadings (nx := 86) rfl rfl rfl rfl ?_
                    refine ev_loc f_X12_findsReadings (nx := 88) rfl rfl rfl rfl ?_
                    refine ev_qL0 f_X12_findsReadings (nx := 91) (r := []) rfl rfl rfl rfl rfl rfl rfl (c_n_heardOf hI (y8_4) (Int.le_trans (by decide : (0:Int) ≤ 1) l47) u13) rfl (fun w54 q54 => ?_)
                    have q54 : (0 ≤ w54.toInt ∧ w54.toInt < 8589934592) ∧ ∀ D : s_D, t_ME 0 gi48 D → y8_4.toInt < D 0 → w54 = s_ec (s_so D y8_4.toNatClampNeg) (D 7) := q54
                    refine ev_loc f_X12_findsReadings (nx := 92) rfl rfl rfl rfl ?_
                    refine ev_loc f_X12_findsReadings (nx := 94) rfl rfl rfl rfl ?_
                    refine ev_qL0 f_X12_findsReadings (nx := 97) (r := [.long w54]) rfl rfl rfl rfl rfl rfl rfl (c_n_heardOf hI (y15_5) l15_5 (Int.le_trans u46 (by decide : (4:Int) ≤ 5))) rfl (fun w55 q55 => ?_)
                    have q55 : (0 ≤ w55.toInt ∧ w55.toInt < 8589934592) ∧ ∀ D : s_D, t_ME 0 gi48 D → y15_5.toInt < D 0 → w55 = s_ec (s_so D y15_5.toNatClampNeg) (D 7) := q55
                    refine ev_loc f_X12_findsReadings (nx := 99) rfl rfl rfl rfl ?_
                    refine ev_anyLE f_X12_findsReadings (nx := 100) rfl rfl rfl rfl (fun z56 e56 => ?_)
                    refine ev_anyLE f_X12_findsReadings (nx := 101) rfl rfl rfl rfl (fun z57 e57 => ?_)
                    refine ev_loc f_X12_findsReadings (nx := 102) rfl rfl rfl rfl ?_
                    refine ev_anyIE f_X12_findsReadings (nx := 103) rfl rfl rfl rfl (fun z58 e58 => ?_)
                    refine ev_if f_X12_findsReadings (t1 := 106) (t2 := 116) rfl rfl rfl (fun h59 => ?_) (fun h59 => ?_)
                    · have u60 : z58.toInt ≤ 0 := t_equ h59 (by decide : (0:Int32).toInt ≤ (0:Int))
                      have l61 : 0 ≤ z58.toInt := t_eql h59 (by decide : (0:Int) ≤ (0:Int32).toInt)
                      refine ev_loc f_X12_findsReadings (nx := 107) rfl rfl rfl rfl ?_
                      refine ev_loc f_X12_findsReadings (nx := 109) rfl rfl rfl rfl ?_
                      refine ev_loc f_X12_findsReadings (nx := 111) rfl rfl rfl rfl ?_
                      refine ev_loc f_X12_findsReadings (nx := 113) rfl rfl rfl rfl ?_
                      refine ev_qN f_X12_findsReadings (nx := 116) (r := []) rfl rfl rfl rfl rfl rfl rfl (c_n_reads hI (y8_4) (y15_5) (y48_6) (by omega)) rfl hX rfl (fun gi62 gl62 gr62 hI hX hC62 q62 => ?_)
                      have q62 : (gi62 69 29).toInt = (gi48 69 29).toInt + 1 ∧ (∀ (L : s_RL) (t : Int × Int × Int), s_S2 gi48 L → y8_4.toInt = t.1 → y15_5.toInt = t.2.1 → y48_6.toInt = t.2.2 → s_S2 gi62 (L ++ [t])) := q62
                      obtain ⟨l63, u63⟩ := hI.b (hI.wf.s (k := 69) rfl) (t_bdK rfl : t_bd 11 29 = some (0, 500))
                      refine ev_incR f_X12_findsReadings (nx := 119) (c := 1) (l := 1) (u := 13) rfl rfl (by decide) (by decide) l48_6 u53 rfl rfl (by decide) (by decide) rfl (fun z64 e64 l64 u64 => ?_)
                      refine ev_jmp f_X12_findsReadings (nx := 78) rfl rfl rfl ?_
                      refine ev_sub (lo := [(6, .int z64), (5, .int y15_5), (4, .int y8_4), (3, .int (g2 70 0)), (0, .ref 69), (1, .long ar1)]) rfl (t_sc rfl (t_sc rfl (t_sc rfl (t_sc rfl (t_sc rfl (t_sc rfl t_sn)))))) ?_
                      exact ih48 _ (by omega) gi62 gl62 gr62 (z64) hI hX  (Int.le_trans (by decide : (0:Int) ≤ 1) l64) u64 ((hC62.1 70 0 rfl).1.trans c48_0) (by omega) (fun j => (congrFun ((funext (fun j => (hC62.1 70 j rfl).1) : gi62 70 = gi48 70)) j).trans (j48_1 j)) (by
                                                            intro D hm hb
                                                            obtain ⟨g1, hn, g2, g3⟩ := j48_2 D hm hb
                                                            have hmN : t_ME 0 gi48 D := hm.mv hb (fun j _ _ _ => j48_1 (0 + j))
                                                            have hw54 : w54 = s_hd D y8_4.toInt := (q54.2 D hmN (by omega)).trans ((s_hd_i (D := D) (p := y8_4.toInt) (by omega) (by omega)).trans (by rw [show y8_4.toInt.toNat = y8_4.toNatClampNeg from (by have := t_clamp (i := y8_4) (by omega); omega)])).symm
                                                            have hw55 : w55 = s_hd D y15_5.toInt := (q55.2 D hmN (by omega)).trans ((s_hd_i (D := D) (p := y15_5.toInt) (by omega) (by omega)).trans (by rw [show y15_5.toInt.toNat = y15_5.toNatClampNeg from (by have := t_clamp (i := y15_5) (by omega); omega)])).symm
                                                            have hv := s_bw_e hw54 hw55 e56 e57
                                                            have hne := (t_le0 e58 h59)
                                                            rw [hv] at hne
                                                            exact ⟨(g1.add (s_R4_y (by omega) hne) (fun L hL => q62.2 L _ hL rfl rfl rfl)).cg (by rw [show z64.toInt = y48_6.toInt + 1 by omega]), hn, g2, g3⟩) rfl
                    · have r65 : z58.toInt ≠ 0 := fun e => h59 (Int32.toInt_inj.mp (e.trans (by decide : (0:Int) = (0 : Int32).toInt)))
                      refine ev_incR f_X12_findsReadings (nx := 119) (c := 1) (l := 1) (u := 13) rfl rfl (by decide) (by decide) l48_6 u53 rfl rfl (by decide) (by decide) rfl (fun z66 e66 l66 u66 => ?_)
                      refine ev_jmp f_X12_findsReadings (nx := 78) rfl rfl rfl ?_
                      refine ev_sub (lo := [(6, .int z66), (5, .int y15_5), (4, .int y8_4), (3, .int (g2 70 0)), (0, .ref 69), (1, .long ar1)]) rfl (t_sc rfl (t_sc rfl (t_sc rfl (t_sc rfl (t_sc rfl (t_sc rfl t_sn)))))) ?_
                      exact ih48 _ (by omega) gi48 gl48 gr48 (z66) hI hX  (Int.le_trans (by decide : (0:Int) ≤ 1) l66) u66 c48_0 (by omega) j48_1 (by
                                                            intro D hm hb
                                                            obtain ⟨g1, hn, g2, g3⟩ := j48_2 D hm hb
                                                            have hmN : t_ME 0 gi48 D := hm.mv hb (fun j _ _ _ => j48_1 (0 + j))
                                                            have hw54 : w54 = s_hd D y8_4.toInt := (q54.2 D hmN (by omega)).trans ((s_hd_i (D := D) (p := y8_4.toInt) (by omega) (by omega)).trans (by rw [show y8_4.toInt.toNat = y8_4.toNatClampNeg from (by have := t_clamp (i := y8_4) (by omega); omega)])).symm
                                                            have hw55 : w55 = s_hd D y15_5.toInt := (q55.2 D hmN (by omega)).trans ((s_hd_i (D := D) (p := y15_5.toInt) (by omega) (by omega)).trans (by rw [show y15_5.toInt.toNat = y15_5.toNatClampNeg from (by have := t_clamp (i := y15_5) (by omega); omega)])).symm
                                                            have hv := s_bw_e hw54 hw55 e56 e57
                                                            have hne := (t_le1 e58 h59)
                                                            rw [hv] at hne
                                                            exact ⟨g1.cg ((s_R4_n (by omega) hne).trans (by rw [show z66.toInt = y48_6.toInt + 1 by omega])), hn, g2, g3⟩) rfl
                refine ev_sub (lo := [(6, .int 1), (5, .int y15_5), (4, .int y8_4), (3, .int (g2 70 0)), (0, .ref 69), (1, .long ar1)]) rfl (t_sc rfl (t_sc rfl (t_sc rfl (t_sc rfl (t_sc rfl (t_sc rfl t_sn)))))) ?_
                exact L48 _ gi15 gl15 gr15 (1) hI hX  (Int.le_trans (by decide : (0:Int) ≤ 1) (by decide : (1:Int) ≤ (1:Int32).toInt)) (Int.le_trans (by decide : (1:Int32).toInt ≤ (1:Int)) (by decide : (1:Int) ≤ 13)) c15_0 (by have kf67 : (1 : Int32).toInt = 1 := (by decide); omega) j15_1 (by
                                                            intro D hm hb
                                                            obtain ⟨g1, hn, g2⟩ := j15_2 D hm hb
                                                            have hl2 : s_lb y8_4.toInt y15_5.toInt = (1 : Int32).toInt := s_lb_1 (by omega)
                                                            exact ⟨g1.cg ((s_R3_s (by omega)).trans (by rw [hl2])), hn, g2, by omega⟩) rfl
          refine ev_sub (lo := [(5, .int 0), (4, .int y8_4), (3, .int (g2 70 0)), (0, .ref 69), (1, .long ar1)]) rfl (t_sc rfl (t_sc rfl (t_sc rfl (t_sc rfl (t_sc rfl t_sn))))) ?_
          exact L15 _ gi8 gl8 gr8 (0) hI hX  (by decide : (0:Int) ≤ (0:Int32).toInt) (Int.le_trans (by decide : (0:Int32).toInt ≤ (0:Int)) (by decide : (0:Int) ≤ 6)) c8_0 (by have kf68 : (0 : Int32).toInt = 0 := (by decide); omega) j8_1 (by
                                                            intro D hm hb
                                                            obtain ⟨g1, hn⟩ := j8_2 D hm hb
                                                            exact ⟨g1.cg (s_R2_s (by omega)), hn, by omega⟩) rfl
      refine ev_sub (lo := [(4, .int 0), (3, .int (g2 70 0)), (0, .ref 69), (1, .long ar1)]) rfl (t_sc rfl (t_sc rfl (t_sc rfl (t_sc rfl t_sn)))) ?_
      exact L8 _ gi4 gl4 gr4 (0) hI hX  (by decide : (0:Int) ≤ (0:Int32).toInt) (Int.le_trans (by decide : (0:Int32).toInt ≤ (0:Int)) (by decide : (0:Int) ≤ 6)) c4_0 (by have kf69 : (0 : Int32).toInt = 0 := (by decide); omega) j4_1 (by
                                                            intro D hm hb
                                                            obtain ⟨g1, hn⟩ := j4_2 D hm hb
                                                            exact ⟨g1.cg (s_R1_e (by omega)), hn⟩) rfl
    · have r70 : y4_4.toInt < (g2 70 0).toInt := Int32.lt_iff_toInt_lt.mp (t_nle h6)
      have u71 : y4_4.toInt ≤ 5 := t_ltu (t_nle h6) u3 rfl
      have l72 : 1 ≤ (g2 70 0).toInt := t_ltl (t_nle h6) l4_4 rfl
      refine ev_loc f_X12_findsReadings (nx := 22) rfl rfl rfl rfl ?_
      refine ev_loc f_X12_findsReadings (nx := 24) rfl rfl rfl rfl ?_
      refine ev_qL0 f_X12_findsReadings (nx := 27) (r := []) rfl rfl rfl rfl rfl rfl rfl (c_n_heardOf hI (y4_4) l4_4 u71) rfl (fun w73 q73 => ?_)
      have q73 : (0 ≤ w73.toInt ∧ w73.toInt < 8589934592) ∧ ∀ D : s_D, t_ME 0 gi4 D → y4_4.toInt < D 0 → w73 = s_ec (s_so D y4_4.toNatClampNeg) (D 7) := q73
      refine ev_loc f_X12_findsReadings (nx := 28) rfl rfl rfl rfl ?_
      refine ev_anyIE f_X12_findsReadings (nx := 29) rfl rfl rfl rfl (fun z74 e74 => ?_)
      refine ev_if f_X12_findsReadings (t1 := 32) (t2 := 40) rfl rfl rfl (fun h75 => ?_) (fun h75 => ?_)
      · have u76 : z74.toInt ≤ 0 := t_equ h75 (by decide : (0:Int32).toInt ≤ (0:Int))
        have l77 : 0 ≤ z74.toInt := t_eql h75 (by decide : (0:Int) ≤ (0:Int32).toInt)
        refine ev_loc f_X12_findsReadings (nx := 33) rfl rfl rfl rfl ?_
        refine ev_loc f_X12_findsReadings (nx := 35) rfl rfl rfl rfl ?_
        refine ev_ic f_X12_findsReadings (nx := 36) (v := -1) rfl (by decide) rfl ?_
        refine ev_ic f_X12_findsReadings (nx := 37) (v := -1) rfl (by decide) rfl ?_
        refine ev_qN f_X12_findsReadings (nx := 40) (r := []) rfl rfl rfl rfl rfl rfl rfl (c_n_reads hI (y4_4) ((-1)) ((-1)) (by omega)) rfl hX rfl (fun gi78 gl78 gr78 hI hX hC78 q78 => ?_)
        have q78 : (gi78 69 29).toInt = (gi4 69 29).toInt + 1 ∧ (∀ (L : s_RL) (t : Int × Int × Int), s_S2 gi4 L → y4_4.toInt = t.1 → (-1) = t.2.1 → (-1) = t.2.2 → s_S2 gi78 (L ++ [t])) := q78
        obtain ⟨l79, u79⟩ := hI.b (hI.wf.s (k := 69) rfl) (t_bdK rfl : t_bd 11 29 = some (0, 500))
        refine ev_incR f_X12_findsReadings (nx := 43) (c := 1) (l := 1) (u := 6) rfl rfl (by decide) (by decide) l4_4 u71 rfl rfl (by decide) (by decide) rfl (fun z80 e80 l80 u80 => ?_)
        refine ev_jmp f_X12_findsReadings (nx := 15) rfl rfl rfl ?_
        refine ev_sub (lo := [(4, .int z80), (3, .int (g2 70 0)), (0, .ref 69), (1, .long ar1)]) rfl (t_sc rfl (t_sc rfl (t_sc rfl (t_sc rfl t_sn)))) ?_
        exact ih4 _ (by omega) gi78 gl78 gr78 (z80) hI hX  (Int.le_trans (by decide : (0:Int) ≤ 1) l80) u80 ((hC78.1 70 0 rfl).1.trans c4_0) (by omega) (fun j => (congrFun ((funext (fun j => (hC78.1 70 j rfl).1) : gi78 70 = gi4 70)) j).trans (j4_1 j)) (by
                                                            intro D hm hb
                                                            obtain ⟨g1, hn⟩ := j4_2 D hm hb
                                                            have hmN : t_ME 0 gi4 D := hm.mv hb (fun j _ _ _ => j4_1 (0 + j))
                                                            have hw73 : w73 = s_hd D y4_4.toInt := (q73.2 D hmN (by omega)).trans ((s_hd_i (D := D) (p := y4_4.toInt) (by omega) (by omega)).trans (by rw [show y4_4.toInt.toNat = y4_4.toNatClampNeg from (by have := t_clamp (i := y4_4) (by omega); omega)])).symm
                                                            have hne := (t_le0 e74 h75)
                                                            rw [hw73] at hne
                                                            exact ⟨(g1.add (s_R1_y (by omega) hne) (fun L hL => q78.2 L _ hL rfl rfl rfl)).cg (by rw [show z80.toInt = y4_4.toInt + 1 by omega]), hn⟩) rfl
      · have r81 : z74.toInt ≠ 0 := fun e => h75 (Int32.toInt_inj.mp (e.trans (by decide : (0:Int) = (0 : Int32).toInt)))
        refine ev_incR f_X12_findsReadings (nx := 43) (c := 1) (l := 1) (u := 6) rfl rfl (by decide) (by decide) l4_4 u71 rfl rfl (by decide) (by decide) rfl (fun z82 e82 l82 u82 => ?_)
        refine ev_jmp f_X12_findsReadings (nx := 15) rfl rfl rfl ?_
        refine ev_sub (lo := [(4, .int z82), (3, .int (g2 70 0)), (0, .ref 69), (1, .long ar1)]) rfl (t_sc rfl (t_sc rfl (t_sc rfl (t_sc rfl t_sn)))) ?_
        exact ih4 _ (by omega) gi4 gl4 gr4 (z82) hI hX  (Int.le_trans (by decide : (0:Int) ≤ 1) l82) u82 c4_0 (by omega) j4_1 (by
                                                            intro D hm hb
                                                            obtain ⟨g1, hn⟩ := j4_2 D hm hb
                                                            have hmN : t_ME 0 gi4 D := hm.mv hb (fun j _ _ _ => j4_1 (0 + j))
                                                            have hw73 : w73 = s_hd D y4_4.toInt := (q73.2 D hmN (by omega)).trans ((s_hd_i (D := D) (p := y4_4.toInt) (by omega) (by omega)).trans (by rw [show y4_4.toInt.toNat = y4_4.toNatClampNeg from (by have := t_clamp (i := y4_4) (by omega); omega)])).symm
                                                            have hne := (t_le1 e74 h75)
                                                            rw [hw73] at hne
                                                            exact ⟨g1.cg ((s_R1_n (by omega) hne).trans (by rw [show z82.toInt = y4_4.toInt + 1 by omega])), hn⟩) rfl
  refine ev_sub (lo := [(4, .int 0), (3, .int (g2 70 0)), (0, .ref 69), (1, .long ar1)]) rfl (t_sc rfl (t_sc rfl (t_sc rfl (t_sc rfl t_sn)))) ?_
  exact L4 _ g2 gl gr (0) hI hX  (by decide : (0:Int) ≤ (0:Int32).toInt) (Int.le_trans (by decide : (0:Int32).toInt ≤ (0:Int)) (by decide : (0:Int) ≤ 6)) rfl (by have kf83 : (0 : Int32).toInt = 0 := (by decide); have ff84 : (g2 69 29).toInt = 0 := (congrArg Int32.toInt (by rw [e2]; exact x_up2_at _ _ _ _ : g2 69 29 = 0)).trans (by decide); omega) (fun j => (congrFun ((by rw [e2]; exact x_up2_ne (by decide) : g2 70 = gi 70)) j).trans ((fun _ => rfl) j)) (by
                                                            intro D hm hb
                                                            have ff85 : (g2 69 29).toInt = 0 := (congrArg Int32.toInt (by rw [e2]; exact x_up2_at _ _ _ _ : g2 69 29 = 0)).trans (by decide)
                                                            have hn : (g2 70 0).toInt = D 0 := by rw [e2, x_up2_off (Or.inl (by decide))]; exact hm.1.1.1
                                                            exact ⟨s_RI.nil (s_S2_nil (by omega)) s_R1_0, hn⟩) rfl
noncomputable def wl_e_readings : List (Nat × Nat) := [(69, 2), (69, 29), (69, 30), (78, 9999), (79, 9999), (80, 9999), (81, 9999), (82, 9999), (83, 9999)]
noncomputable def Q_e_readings (gi : Nat → Nat → Int32) (gl : Nat → Nat → Int64) (gr : Nat → Nat → Value) (ar1 : Int64) : Int32 → (Nat → Nat → Int32) → (Nat → Nat → Int64) → (Nat → Nat → Value) → Prop := fun (v : Int32) (gi2 : Nat → Nat → Int32) (gl2 : Nat → Nat → Int64) (gr2 : Nat → Nat → Value) => (∀ D : s_D, t_ME 0 gi D → t_Cb D → (1 ≤ ar1.toInt → s_S3 gi2 (s_rL D ar1) ∧ v.toInt = ((s_rL D ar1).length : Int)) ∧ (ar1.toInt < 1 → v.toInt = -1 ∧ ∀ L, s_S3 gi L → s_S3 gi2 L))
theorem c_e_readings {X : x_Ext} {d : Nat} {sh : List (Nat ⊕ (Nat × Nat))} {gi : Nat → Nat → Int32} {gl : Nat → Nat → Int64} {gr : Nat → Nat → Value} (hI : t_I sh gi gr) (ar1 : Int64) : x_Me X (d + 5) n_X12_readings [.ref 69, .long ar1] (sh, gi, gl, gr) (t_PI wl_e_readings sh gi gl gr (-1) 500 (Q_e_readings gi gl gr ar1)) := by
  have hX : t_X wl_e_readings sh gi gl gr gi gl gr := t_X.rf
  refine me_i f_X12_readings (hI.wf.s rfl) rfl rfl rfl ?_
  obtain ⟨l1, u1⟩ := hI.b (hI.wf.s (k := 69) rfl) (t_bdK rfl : t_bd 11 29 = some (0, 500))
  refine ev_loc f_X12_readings (nx := 1) rfl rfl rfl rfl ?_
  refine ev_lc f_X12_readings (nx := 2) (v := 1) rfl (by decide) rfl ?_
  refine ev_anyIE f_X12_readings (nx := 3) rfl rfl rfl rfl (fun z2 e2 => ?_)
  refine ev_if f_X12_readings (t1 := 12) (t2 := 6) rfl rfl rfl (fun h3 => ?_) (fun h3 => ?_)
  · have l4 : 0 ≤ z2.toInt := t_lel h3 (by decide : (0:Int) ≤ (0:Int32).toInt)
    refine ev_loc f_X12_readings (nx := 13) rfl rfl rfl rfl ?_
    have hlt := (t_lt1r e2 h3)
    refine ev_loc f_X12_readings (nx := 14) rfl rfl rfl rfl ?_
    refine ev_qN f_X12_readings (nx := 17) (r := []) rfl rfl rfl rfl rfl rfl rfl (c_l_findsReadings hI (ar1)) rfl hX rfl (fun gi5 gl5 gr5 hI hX hC5 q5 => ?_)
    have q5 : (gi5 69 29).toInt ≤ 474 ∧ (∀ j, gi5 70 j = gi 70 j) ∧ (∀ D : s_D, t_ME 0 gi D → t_Cb D → s_S2 gi5 (s_rL D ar1)) := q5
    obtain ⟨l6, u6⟩ := hI.b (hI.wf.s (k := 69) rfl) (t_bdK rfl : t_bd 11 29 = some (0, 500))
    refine ev_ic f_X12_readings (nx := 18) (v := 0) rfl (by decide) rfl ?_
    refine ev_loc f_X12_readings (nx := 19) (lo' := [(3, .int 0), (0, .ref 69), (1, .long ar1)]) rfl rfl rfl rfl ?_
    have L7 : ∀ (m7 : Nat) (gi7 : Nat → Nat → Int32) (gl7 : Nat → Nat → Int64) (gr7 : Nat → Nat → Value) (y7_3 : Int32), t_I sh gi7 gr7 → t_X wl_e_readings sh gi gl gr gi7 gl7 gr7 → 0 ≤ y7_3.toInt → y7_3.toInt ≤ 899 → gi7 69 29 = (gi5 69 29) → (gi7 69 29).toInt ≤ 474 → (∀ k : Nat, (k : Int) < y7_3.toInt → gi7 81 k = gi7 78 k ∧ gi7 82 k = gi7 79 k ∧ gi7 83 k = gi7 80 k) → (∀ D : s_D, t_ME 0 gi D → t_Cb D → s_S2 gi7 (s_rL D ar1)) → (899 - y7_3.toInt).toNat = m7 → x_Ev X (d + 5) n_X12_readings 19 [(3, .int y7_3), (0, .ref 69), (1, .long ar1)] [] (sh, gi7, gl7, gr7) (t_PI wl_e_readings sh gi gl gr (-1) 500 (Q_e_readings gi gl gr ar1)) := by
      intro m7
      induction m7 using Nat.strongRecOn with
      | _ m7 ih7 =>
      intro gi7 gl7 gr7 y7_3 hI hX l7_3 u7_3 c7_0 j7_0 j7_1 j7_2 hm7
      refine ev_loc f_X12_readings (nx := 20) rfl rfl rfl rfl ?_
      refine ev_loc f_X12_readings (nx := 21) rfl rfl rfl rfl ?_
      refine ev_gvI f_X12_readings (nx := 24) (w := (gi5 69 29)) rfl (hI.wf.s rfl) rfl rfl c7_0 rfl ?_
      refine ev_if f_X12_readings (t1 := 69) (t2 := 27) rfl rfl rfl (fun h8 => ?_) (fun h8 => ?_)
      · have r9 : (gi5 69 29).toInt ≤ y7_3.toInt := Int32.le_iff_toInt_le.mp h8
        refine ev_loc f_X12_readings (nx := 70) rfl rfl rfl rfl ?_
        refine ev_loc f_X12_readings (nx := 71) rfl rfl rfl rfl ?_
        refine ev_gvI f_X12_readings (nx := 74) (w := (gi5 69 29)) rfl (hI.wf.s rfl) rfl rfl c7_0 rfl ?_
        refine ev_putIT f_X12_readings (nx := 77) rfl (hI.wf.s rfl) rfl rfl rfl (hI.putB (hI.wf.s rfl) rfl rfl l6 (by decide) u6 (by decide)) (hX.upI rfl) (fun g10 e10 hI hX => ?_)
        refine ev_loc f_X12_readings (nx := 78) rfl rfl rfl rfl ?_
        refine ev_loc f_X12_readings (nx := 79) rfl rfl rfl rfl ?_
        refine ev_gvI f_X12_readings (nx := 82) (w := (gi5 69 29)) rfl (hI.wf.s rfl) rfl rfl ((by rw [e10]; exact x_up2_off (Or.inr (by decide)) : g10 69 29 = gi7 69 29).trans c7_0) rfl ?_
        refine ev_inV2 f_X12_readings (nx := 85) (lo2 := [(0, .ref 69), (1, .int (gi5 69 29))]) rfl rfl rfl rfl f_X12_gives (hI.wf.s rfl) rfl rfl rfl rfl rfl ?_
        refine ev_loc f_X12_gives (nx := 1) rfl rfl rfl rfl ?_
        refine ev_ic f_X12_gives (nx := 2) (v := 0) rfl (by decide) rfl ?_
        refine ev_putIT f_X12_gives (nx := 5) rfl (hI.wf.s rfl) rfl rfl rfl (hI.put0 (hI.wf.s rfl) rfl rfl) (hX.upI rfl) (fun g11 e11 hI hX => ?_)
        refine ev_loc f_X12_gives (nx := 6) rfl rfl rfl rfl ?_
        refine ev_retK1 f_X12_gives rfl rfl rfl ?_
        exact ev_ret f_X12_readings rfl rfl rfl ⟨_, _, _, rfl, hI, hX, ⟨_, rfl, (Int.le_trans (by decide : ((-1):Int) ≤ 0) l6), u6, (show (∀ D : s_D, t_ME 0 gi D → t_Cb D → (1 ≤ ar1.toInt → s_S3 g11 (s_rL D ar1) ∧ (gi5 69 29).toInt = ((s_rL D ar1).length : Int)) ∧ (ar1.toInt < 1 → (gi5 69 29).toInt = -1 ∧ ∀ L, s_S3 gi L → s_S3 g11 L)) from (by
                                                            intro D hm hb
                                                            have h1 := hlt
                                                            have hk0 := congrArg Int32.toInt c7_0
                                                            have g1 := j7_2 D hm hb
                                                            have g2 := j7_1
                                                            have ff12 : (g11 69 30).toInt = (gi5 69 29).toInt := congrArg Int32.toInt ((by rw [e11]; exact x_up2_off (Or.inr (by decide)) : g11 69 30 = g10 69 30).trans (by rw [e10]; exact x_up2_at _ _ _ _ : g10 69 30 = (gi5 69 29)))
                                                            refine ⟨fun _ => ⟨s_S3_of g1 (by omega) (fun k hk => ?_), ?_⟩, fun h => absurd h (by omega)⟩
                                                            · rw [show g11 81 = gi7 81 from (by rw [e11, x_up2_ne (by decide), e10, x_up2_ne (by decide)]), show g11 82 = gi7 82 from (by rw [e11, x_up2_ne (by decide), e10, x_up2_ne (by decide)]), show g11 83 = gi7 83 from (by rw [e11, x_up2_ne (by decide), e10, x_up2_ne (by decide)])]
                                                              exact g2 k (by omega)
                                                            · have g3 := g1.1
                                                              omega))⟩⟩
      · have r13 : y7_3.toInt < (gi5 69 29).toInt := Int32.lt_iff_toInt_lt.mp (t_nle h8)
        have u14 : y7_3.toInt ≤ 499 := t_ltu (t_nle h8) u6 rfl
        have l15 : 1 ≤ (gi5 69 29).toInt := t_ltl (t_nle h8) l7_3 rfl
        refine ev_loc f_X12_readings (nx := 28) rfl rfl rfl rfl ?_
        refine ev_getR f_X12_readings (nx := 31) rfl (hI.wf.s rfl) rfl rfl (hI.wf.r rfl) rfl rfl ?_
        refine ev_loc f_X12_readings (nx := 32) rfl rfl rfl rfl ?_
        refine ev_loc f_X12_readings (nx := 33) rfl rfl rfl rfl ?_
        refine ev_getR f_X12_readings (nx := 36) rfl (hI.wf.s rfl) rfl rfl (hI.wf.r rfl) rfl rfl ?_
        refine ev_loc f_X12_readings (nx := 37) rfl rfl rfl rfl ?_
        refine ev_ialdT f_X12_readings (nx := 38) rfl (hI.wf.s rfl) l7_3 (by decide) u14 (by decide) rfl (fun w16 e16 => ?_)
        refine ev_iastT f_X12_readings (nx := 39) rfl (hI.wf.s rfl) l7_3 (by decide) u14 (by decide) rfl (hI.astG (hI.wf.s rfl) (fun lo hi e => absurd e (t_nob (by decide +kernel) _)) (fun k hk e => by have := hk.2.1; omega)) (hX.upI (t_inA_ok rfl)) (fun g17 e17 hI hX => ?_)
        refine ev_loc f_X12_readings (nx := 40) rfl rfl rfl rfl ?_
        refine ev_getR f_X12_readings (nx := 43) rfl (hI.wf.s rfl) rfl rfl (hI.wf.r rfl) rfl rfl ?_
        refine ev_loc f_X12_readings (nx := 44) rfl rfl rfl rfl ?_
        refine ev_loc f_X12_readings (nx := 45) rfl rfl rfl rfl ?_
        refine ev_getR f_X12_readings (nx := 48) rfl (hI.wf.s rfl) rfl rfl (hI.wf.r rfl) rfl rfl ?_
        refine ev_loc f_X12_readings (nx := 49) rfl rfl rfl rfl ?_
        refine ev_ialdT f_X12_readings (nx := 50) rfl (hI.wf.s rfl) l7_3 (by decide) u14 (by decide) rfl (fun w18 e18 => ?_)
        refine ev_iastT f_X12_readings (nx := 51) rfl (hI.wf.s rfl) l7_3 (by decide) u14 (by decide) rfl (hI.astG (hI.wf.s rfl) (fun lo hi e => absurd e (t_nob (by decide +kernel) _)) (fun k hk e => by have := hk.2.1; omega)) (hX.upI (t_inA_ok rfl)) (fun g19 e19 hI hX => ?_)
        refine ev_loc f_X12_readings (nx := 52) rfl rfl rfl rfl ?_
        refine ev_getR f_X12_readings (nx := 55) rfl (hI.wf.s rfl) rfl rfl (hI.wf.r rfl) rfl rfl ?_
        refine ev_loc f_X12_readings (nx := 56) rfl rfl rfl rfl ?_
        refine ev_loc f_X12_readings (nx := 57) rfl rfl rfl rfl ?_
        refine ev_getR f_X12_readings (nx := 60) rfl (hI.wf.s rfl) rfl rfl (hI.wf.r rfl) rfl rfl ?_
        refine ev_loc f_X12_readings (nx := 61) rfl rfl rfl rfl ?_
        refine ev_ialdT f_X12_readings (nx := 62) rfl (hI.wf.s rfl) l7_3 (by decide) u14 (by decide) rfl (fun w20 e20 => ?_)
        refine ev_iastT f_X12_readings (nx := 63) rfl (hI.wf.s rfl) l7_3 (by decide) u14 (by decide) rfl (hI.astG (hI.wf.s rfl) (fun lo hi e => absurd e (t_nob (by decide +kernel) _)) (fun k hk e => by have := hk.2.1; omega)) (hX.upI (t_inA_ok rfl)) (fun g21 e21 hI hX => ?_)
        refine ev_incR f_X12_readings (nx := 66) (c := 1) (l := 1) (u := 500) rfl rfl (by decide) (by decide) l7_3 u14 rfl rfl (by decide) (by decide) rfl (fun z22 e22 l22 u22 => ?_)
        refine ev_jmp f_X12_readings (nx := 19) rfl rfl rfl ?_
        refine ev_sub (lo := [(3, .int z22), (0, .ref 69), (1, .long ar1)]) rfl (t_sc rfl (t_sc rfl (t_sc rfl t_sn))) ?_
        exact ih7 _ (by omega) g21 gl7 gr7 (z22) hI hX  (Int.le_trans (by decide : (0:Int) ≤ 1) l22) (Int.le_trans u22 (by decide : (500:Int) ≤ 899)) ((by rw [e21]; exact x_up2_off (Or.inl (by decide)) : g21 69 29 = g19 69 29).trans ((by rw [e19]; exact x_up2_off (Or.inl (by decide)) : g19 69 29 = g17 69 29).trans ((by rw [e17]; exact x_up2_off (Or.inl (by decide)) : g17 69 29 = gi7 69 29).trans c7_0))) (by have ff23 : (g21 69 29).toInt = (gi5 69 29).toInt := congrArg Int32.toInt ((by rw [e21]; exact x_up2_off (Or.inl (by decide)) : g21 69 29 = g19 69 29).trans ((by rw [e19]; exact x_up2_off (Or.inl (by decide)) : g19 69 29 = g17 69 29).trans ((by rw [e17]; exact x_up2_off (Or.inl (by decide)) : g17 69 29 = gi7 69 29).trans c7_0))); omega) (by
                                                            intro k hk
                                                            exact s_cp3 j7_1 e17 e16 e19 e18 e21 e20 (by omega) (by omega) k hk) (fun D hm hb => (j7_2 D hm hb).cg (by rw [e21, x_up2_off (Or.inl (by decide)), e19, x_up2_off (Or.inl (by decide)), e17, x_up2_off (Or.inl (by decide))]) (by rw [e21, x_up2_ne (by decide), e19, x_up2_ne (by decide), e17, x_up2_ne (by decide)]) (by rw [e21, x_up2_ne (by decide), e19, x_up2_ne (by decide), e17, x_up2_ne (by decide)]) (by rw [e21, x_up2_ne (by decide), e19, x_up2_ne (by decide), e17, x_up2_ne (by decide)])) rfl
    refine ev_sub (lo := [(3, .int 0), (0, .ref 69), (1, .long ar1)]) rfl (t_sc rfl (t_sc rfl (t_sc rfl t_sn))) ?_
    exact L7 _ gi5 gl5 gr5 (0) hI hX  (by decide : (0:Int) ≤ (0:Int32).toInt) (Int.le_trans (by decide : (0:Int32).toInt ≤ (0:Int)) (by decide : (0:Int) ≤ 899)) rfl (by omega) (by
                                                            intro k hk
                                                            have z0 : (0 : Int32).toInt = 0 := rfl
                                                            omega) q5.2.2 rfl
  · have u24 : z2.toInt ≤ (-1) := t_ltu (t_nle h3) (by decide : (0:Int32).toInt ≤ (0:Int)) rfl
    refine ev_loc f_X12_readings (nx := 7) rfl rfl rfl rfl ?_
    refine ev_ic f_X12_readings (nx := 8) (v := 1) rfl (by decide) rfl ?_
    refine ev_inV2 f_X12_readings (nx := 11) (lo2 := [(0, .ref 69), (1, .int 1)]) rfl rfl rfl rfl f_X12_refuse (hI.wf.s rfl) rfl rfl rfl rfl rfl ?_
    refine ev_loc f_X12_refuse (nx := 1) rfl rfl rfl rfl ?_
    refine ev_loc f_X12_refuse (nx := 2) rfl rfl rfl rfl ?_
    refine ev_putIT f_X12_refuse (nx := 5) rfl (hI.wf.s rfl) rfl rfl rfl (hI.put0 (hI.wf.s rfl) rfl rfl) (hX.upI rfl) (fun g25 e25 hI hX => ?_)
    refine ev_ic f_X12_refuse (nx := 6) (v := -1) rfl (by decide) rfl ?_
    refine ev_retK1 f_X12_refuse rfl rfl rfl ?_
    exact ev_ret f_X12_readings rfl rfl rfl ⟨_, _, _, rfl, hI, hX, ⟨_, rfl, (by decide : ((-1):Int) ≤ ((-1):Int32).toInt), (Int.le_trans (by decide : ((-1):Int32).toInt ≤ ((-1):Int)) (by decide : ((-1):Int) ≤ 500)), (show (∀ D : s_D, t_ME 0 gi D → t_Cb D → (1 ≤ ar1.toInt → s_S3 g25 (s_rL D ar1) ∧ ((-1) : Int) = ((s_rL D ar1).length : Int)) ∧ (ar1.toInt < 1 → ((-1) : Int) = -1 ∧ ∀ L, s_S3 gi L → s_S3 g25 L)) from (by
                                                            intro D hm hb
                                                            have h1 := (t_lt1q e2 h3)
                                                            exact ⟨fun h => absurd h (by omega), fun _ => ⟨rfl, fun L hL => hL.cg (by rw [e25, x_up2_off (Or.inr (by decide))]) (by rw [e25, x_up2_ne (by decide)]) (by rw [e25, x_up2_ne (by decide)]) (by rw [e25, x_up2_ne (by decide)])⟩⟩))⟩⟩
noncomputable def wl_d_reading : List (Nat × Nat) := [(0, 0)]
noncomputable def Q_d_reading (gi : Nat → Nat → Int32) (gl : Nat → Nat → Int64) (gr : Nat → Nat → Value) (ar1 : Int32) (ar2 : Int32) : Int32 → (Nat → Nat → Int32) → (Nat → Nat → Int64) → (Nat → Nat → Value) → Prop := fun (v : Int32) (gi2 : Nat → Nat → Int32) (gl2 : Nat → Nat → Int64) (gr2 : Nat → Nat → Value) => ∀ L : s_RL, s_S1 gi L → s_LO L → ((0 ≤ ar1.toInt ∧ ar1.toInt < (L.length : Int) ∧ 0 ≤ ar2.toInt ∧ ar2.toInt ≤ 2) → v.toInt = s_rd L ar1.toNatClampNeg ar2.toInt) ∧ (¬ (0 ≤ ar1.toInt ∧ ar1.toInt < (L.length : Int) ∧ 0 ≤ ar2.toInt ∧ ar2.toInt ≤ 2) → v.toInt = -1)
theorem c_d_reading {X : x_Ext} {d : Nat} {sh : List (Nat ⊕ (Nat × Nat))} {gi : Nat → Nat → Int32} {gl : Nat → Nat → Int64} {gr : Nat → Nat → Value} (hI : t_I sh gi gr) (ar1 : Int32) (ar2 : Int32) : x_Me X (d + 2) n_X11_reading [.ref 0, .int ar1, .int ar2] (sh, gi, gl, gr) (t_PI wl_d_reading sh gi gl gr (-2147483648) 2147483647 (Q_d_reading gi gl gr ar1 ar2)) := by
  have hX : t_X wl_d_reading sh gi gl gr gi gl gr := t_X.rf
  refine me_i f_X11_reading (hI.wf.s rfl) rfl rfl rfl ?_
  refine ev_loc f_X11_reading (nx := 1) rfl rfl rfl rfl ?_
  refine ev_if f_X11_reading (t1 := 9) (t2 := 4) rfl rfl rfl (fun h1 => ?_) (fun h1 => ?_)
  · have u2 : ar2.toInt ≤ (-1) := t_ltu h1 (by decide : (0:Int32).toInt ≤ (0:Int)) rfl
    refine ev_loc f_X11_reading (nx := 10) rfl rfl rfl rfl ?_
    refine ev_ic f_X11_reading (nx := 11) (v := 1) rfl (by decide) rfl ?_
    refine ev_inV2 f_X11_reading (nx := 14) (lo2 := [(0, .ref 0), (1, .int 1)]) rfl rfl rfl rfl f_X11_refuse (hI.wf.s rfl) rfl rfl rfl rfl rfl ?_
    refine ev_loc f_X11_refuse (nx := 1) rfl rfl rfl rfl ?_
    refine ev_loc f_X11_refuse (nx := 2) rfl rfl rfl rfl ?_
    refine ev_putIT f_X11_refuse (nx := 5) rfl (hI.wf.s rfl) rfl rfl rfl (hI.put0 (hI.wf.s rfl) rfl rfl) (hX.upI rfl) (fun g3 e3 hI hX => ?_)
    refine ev_ic f_X11_refuse (nx := 6) (v := -1) rfl (by decide) rfl ?_
    refine ev_retK1 f_X11_refuse rfl rfl rfl ?_
    exact ev_ret f_X11_reading rfl rfl rfl ⟨_, _, _, rfl, hI, hX, ⟨_, rfl, (Int.le_trans (by decide : ((-2147483648):Int) ≤ (-1)) (by decide : ((-1):Int) ≤ ((-1):Int32).toInt)), (Int.le_trans (by decide : ((-1):Int32).toInt ≤ ((-1):Int)) (by decide : ((-1):Int) ≤ 2147483647)), (show ∀ L : s_RL, s_S1 gi L → s_LO L → ((0 ≤ ar1.toInt ∧ ar1.toInt < (L.length : Int) ∧ 0 ≤ ar2.toInt ∧ ar2.toInt ≤ 2) → ((-1) : Int) = s_rd L ar1.toNatClampNeg ar2.toInt) ∧ (¬ (0 ≤ ar1.toInt ∧ ar1.toInt < (L.length : Int) ∧ 0 ≤ ar2.toInt ∧ ar2.toInt ≤ 2) → ((-1) : Int) = -1) from (by
                                                            intro L h hL
                                                            obtain ⟨hn, hl⟩ := h
                                                            have hk : (gi 0 14).toInt = (L.length : Int) := hn
                                                            exact ⟨fun h => absurd h (by omega), fun _ => rfl⟩))⟩⟩
  · have l4 : 0 ≤ ar2.toInt := t_lel (t_nlt h1) (by decide : (0:Int) ≤ (0:Int32).toInt)
    refine ev_loc f_X11_reading (nx := 5) rfl rfl rfl rfl ?_
    refine ev_ic f_X11_reading (nx := 6) (v := 2) rfl (by decide) rfl ?_
    refine ev_if f_X11_reading (t1 := 15) (t2 := 9) rfl rfl rfl (fun h5 => ?_) (fun h5 => ?_)
    · have u6 : ar2.toInt ≤ 2 := t_leu h5 (by decide : (2:Int32).toInt ≤ (2:Int))
      refine ev_loc f_X11_reading (nx := 16) rfl rfl rfl rfl ?_
      refine ev_if f_X11_reading (t1 := 27) (t2 := 19) rfl rfl rfl (fun h7 => ?_) (fun h7 => ?_)
      · have u8 : ar1.toInt ≤ (-1) := t_ltu h7 (by decide : (0:Int32).toInt ≤ (0:Int)) rfl
        refine ev_loc f_X11_reading (nx := 28) rfl rfl rfl rfl ?_
        refine ev_bp f_X11_reading (nx := 30) (v := 6) rfl (by decide) rfl ?_
        refine ev_inV2 f_X11_reading (nx := 33) (lo2 := [(0, .ref 0), (1, .int 6)]) rfl rfl rfl rfl f_X11_refuse (hI.wf.s rfl) rfl rfl rfl rfl rfl ?_
        refine ev_loc f_X11_refuse (nx := 1) rfl rfl rfl rfl ?_
        refine ev_loc f_X11_refuse (nx := 2) rfl rfl rfl rfl ?_
        refine ev_putIT f_X11_refuse (nx := 5) rfl (hI.wf.s rfl) rfl rfl rfl (hI.put0 (hI.wf.s rfl) rfl rfl) (hX.upI rfl) (fun g9 e9 hI hX => ?_)
        refine ev_ic f_X11_refuse (nx := 6) (v := -1) rfl (by decide) rfl ?_
        refine ev_retK1 f_X11_refuse rfl rfl rfl ?_
        exact ev_ret f_X11_reading rfl rfl rfl ⟨_, _, _, rfl, hI, hX, ⟨_, rfl, (Int.le_trans (by decide : ((-2147483648):Int) ≤ (-1)) (by decide : ((-1):Int) ≤ ((-1):Int32).toInt)), (Int.le_trans (by decide : ((-1):Int32).toInt ≤ ((-1):Int)) (by decide : ((-1):Int) ≤ 2147483647)), (show ∀ L : s_RL, s_S1 gi L → s_LO L → ((0 ≤ ar1.toInt ∧ ar1.toInt < (L.length : Int) ∧ 0 ≤ ar2.toInt ∧ ar2.toInt ≤ 2) → ((-1) : Int) = s_rd L ar1.toNatClampNeg ar2.toInt) ∧ (¬ (0 ≤ ar1.toInt ∧ ar1.toInt < (L.length : Int) ∧ 0 ≤ ar2.toInt ∧ ar2.toInt ≤ 2) → ((-1) : Int) = -1) from (by
                                                            intro L h hL
                                                            obtain ⟨hn, hl⟩ := h
                                                            have hk : (gi 0 14).toInt = (L.length : Int) := hn
                                                            exact ⟨fun h => absurd h (by omega), fun _ => rfl⟩))⟩⟩
      · have l10 : 0 ≤ ar1.toInt := t_lel (t_nlt h7) (by decide : (0:Int) ≤ (0:Int32).toInt)
        refine ev_loc f_X11_reading (nx := 20) rfl rfl rfl rfl ?_
        refine ev_loc f_X11_reading (nx := 21) rfl rfl rfl rfl ?_
        refine ev_getI f_X11_reading (nx := 24) rfl (hI.wf.s rfl) rfl rfl rfl ?_
        obtain ⟨l11, u11⟩ := hI.b (hI.wf.s (k := 0) rfl) (t_bdK rfl : t_bd 10 14 = some (0, 474))
        refine ev_if f_X11_reading (t1 := 34) (t2 := 27) rfl rfl rfl (fun h12 => ?_) (fun h12 => ?_)
        · have r13 : ar1.toInt < (gi 0 14).toInt := Int32.lt_iff_toInt_lt.mp h12
          have u14 : ar1.toInt ≤ 473 := t_ltu h12 u11 rfl
          have l15 : 1 ≤ (gi 0 14).toInt := t_ltl h12 l10 rfl
          refine ev_loc f_X11_reading (nx := 35) rfl rfl rfl rfl ?_
          refine ev_if f_X11_reading (t1 := 60) (t2 := 38) rfl rfl rfl (fun h16 => ?_) (fun h16 => ?_)
          · have u17 : ar2.toInt ≤ 0 := t_leu h16 (by decide : (0:Int32).toInt ≤ (0:Int))
            refine ev_loc f_X11_reading (nx := 61) rfl rfl rfl rfl ?_
            refine ev_loc f_X11_reading (nx := 62) rfl rfl rfl rfl ?_
            refine ev_getR f_X11_reading (nx := 65) rfl (hI.wf.s rfl) rfl rfl (hI.wf.r rfl) rfl rfl ?_
            refine ev_ic f_X11_reading (nx := 66) (v := 3) rfl (by decide) rfl ?_
            refine ev_loc f_X11_reading (nx := 67) rfl rfl rfl rfl ?_
            refine ev_mulL f_X11_reading (nx := 68) (c := 3) (l := 0) (u := 1419) rfl (by decide) (by decide) l10 u14 rfl rfl (by decide) (by decide) rfl (fun z18 e18 l18 u18 => ?_)
            refine ev_loc f_X11_reading (nx := 69) rfl rfl rfl rfl ?_
            refine ev_addR f_X11_reading (nx := 70) (l := 0) (u := 1419) rfl l18 u18 l4 u17 rfl rfl (by decide) (by decide) rfl (fun z19 e19 l19 u19 => ?_)
            refine ev_ialdT f_X11_reading (nx := 71) rfl (hI.wf.s rfl) l19 (by decide) u19 (by decide) rfl (fun w20 e20 => ?_)
            refine ev_inV2 f_X11_reading (nx := 74) (lo2 := [(0, .ref 0), (1, .int w20)]) rfl rfl rfl rfl f_X11_answer (hI.wf.s rfl) rfl rfl rfl rfl rfl ?_
            refine ev_loc f_X11_answer (nx := 1) rfl rfl rfl rfl ?_
            refine ev_ic f_X11_answer (nx := 2) (v := 0) rfl (by decide) rfl ?_
            refine ev_putIT f_X11_answer (nx := 5) rfl (hI.wf.s rfl) rfl rfl rfl (hI.put0 (hI.wf.s rfl) rfl rfl) (hX.upI rfl) (fun g21 e21 hI hX => ?_)
            refine ev_loc f_X11_answer (nx := 6) rfl rfl rfl rfl ?_
            refine ev_retK1 f_X11_answer rfl rfl rfl ?_
            exact ev_ret f_X11_reading rfl rfl rfl ⟨_, _, _, rfl, hI, hX, ⟨_, rfl, (t_lo w20), (t_hi w20), (show ∀ L : s_RL, s_S1 gi L → s_LO L → ((0 ≤ ar1.toInt ∧ ar1.toInt < (L.length : Int) ∧ 0 ≤ ar2.toInt ∧ ar2.toInt ≤ 2) → w20.toInt = s_rd L ar1.toNatClampNeg ar2.toInt) ∧ (¬ (0 ≤ ar1.toInt ∧ ar1.toInt < (L.length : Int) ∧ 0 ≤ ar2.toInt ∧ ar2.toInt ≤ 2) → w20.toInt = -1) from (by
                                                            intro L h hL
                                                            obtain ⟨hn, hl⟩ := h
                                                            have hk : (gi 0 14).toInt = (L.length : Int) := hn
                                                            refine ⟨fun _ => ?_, fun h => absurd (show _ from ⟨by omega, by omega, by omega, by omega⟩) h⟩
                                                            have c1 := t_clamp (i := ar1) (by omega)
                                                            obtain ⟨t, ht⟩ := s_rd_g (L := L) (k := ar1.toNatClampNeg) (by omega)
                                                            obtain ⟨v1, v2, v3⟩ := hl _ t ht
                                                            obtain ⟨d0, d1, d2⟩ := s_rd_0 ht
                                                            have ho := hL _ t ht
                                                            have c3 := t_clamp (i := z19) (by omega)
                                                            rw [e20, show z19.toNatClampNeg = 3 * ar1.toNatClampNeg by omega, show ar2.toInt = 0 by omega, d0]; exact v1))⟩⟩
          · have l22 : 1 ≤ ar2.toInt := t_ltl (t_nle h16) (by decide : (0:Int) ≤ (0:Int32).toInt) rfl
            refine ev_loc f_X11_reading (nx := 39) rfl rfl rfl rfl ?_
            refine ev_getR f_X11_reading (nx := 42) rfl (hI.wf.s rfl) rfl rfl (hI.wf.r rfl) rfl rfl ?_
            refine ev_ic f_X11_reading (nx := 43) (v := 3) rfl (by decide) rfl ?_
            refine ev_loc f_X11_reading (nx := 44) rfl rfl rfl rfl ?_
            refine ev_mulL f_X11_reading (nx := 45) (c := 3) (l := 0) (u := 1419) rfl (by decide) (by decide) l10 u14 rfl rfl (by decide) (by decide) rfl (fun z23 e23 l23 u23 => ?_)
            refine ev_ic f_X11_reading (nx := 46) (v := 1) rfl (by decide) rfl ?_
            refine ev_addC f_X11_reading (nx := 47) (c := 1) (l := 1) (u := 1420) rfl (by decide) l23 u23 rfl rfl (by decide) (by decide) rfl (fun z24 e24 l24 u24 => ?_)
            refine ev_ialdT f_X11_reading (nx := 48) rfl (hI.wf.s rfl) l24 (by decide) u24 (by decide) rfl (fun w25 e25 => ?_)
            refine ev_bp f_X11_reading (nx := 50) (v := 6) rfl (by decide) rfl ?_
            refine ev_if f_X11_reading (t1 := 53) (t2 := 60) rfl rfl rfl (fun h26 => ?_) (fun h26 => ?_)
            · have u27 : w25.toInt ≤ 6 := t_equ h26 (by decide : (6:Int32).toInt ≤ (6:Int))
              have l28 : 6 ≤ w25.toInt := t_eql h26 (by decide : (6:Int) ≤ (6:Int32).toInt)
              refine ev_loc f_X11_reading (nx := 54) rfl rfl rfl rfl ?_
              refine ev_bp f_X11_reading (nx := 56) (v := 6) rfl (by decide) rfl ?_
              refine ev_inV2 f_X11_reading (nx := 59) (lo2 := [(0, .ref 0), (1, .int 6)]) rfl rfl rfl rfl f_X11_refuse (hI.wf.s rfl) rfl rfl rfl rfl rfl ?_
              refine ev_loc f_X11_refuse (nx := 1) rfl rfl rfl rfl ?_
              refine ev_loc f_X11_refuse (nx := 2) rfl rfl rfl rfl ?_
              refine ev_putIT f_X11_refuse (nx := 5) rfl (hI.wf.s rfl) rfl rfl rfl (hI.put0 (hI.wf.s rfl) rfl rfl) (hX.upI rfl) (fun g29 e29 hI hX => ?_)
              refine ev_ic f_X11_refuse (nx := 6) (v := -1) rfl (by decide) rfl ?_
              refine ev_retK1 f_X11_refuse rfl rfl rfl ?_
              exact ev_ret f_X11_reading rfl rfl rfl ⟨_, _, _, rfl, hI, hX, ⟨_, rfl, (Int.le_trans (by decide : ((-2147483648):Int) ≤ (-1)) (by decide : ((-1):Int) ≤ ((-1):Int32).toInt)), (Int.le_trans (by decide : ((-1):Int32).toInt ≤ ((-1):Int)) (by decide : ((-1):Int) ≤ 2147483647)), (show ∀ L : s_RL, s_S1 gi L → s_LO L → ((0 ≤ ar1.toInt ∧ ar1.toInt < (L.length : Int) ∧ 0 ≤ ar2.toInt ∧ ar2.toInt ≤ 2) → ((-1) : Int) = s_rd L ar1.toNatClampNeg ar2.toInt) ∧ (¬ (0 ≤ ar1.toInt ∧ ar1.toInt < (L.length : Int) ∧ 0 ≤ ar2.toInt ∧ ar2.toInt ≤ 2) → ((-1) : Int) = -1) from (by
                                                            intro L h hL
                                                            obtain ⟨hn, hl⟩ := h
                                                            have hk : (gi 0 14).toInt = (L.length : Int) := hn
                                                            refine ⟨fun _ => ?_, fun h => absurd (show _ from ⟨by omega, by omega, by omega, by omega⟩) h⟩
                                                            have c1 := t_clamp (i := ar1) (by omega)
                                                            obtain ⟨t, ht⟩ := s_rd_g (L := L) (k := ar1.toNatClampNeg) (by omega)
                                                            obtain ⟨v1, v2, v3⟩ := hl _ t ht
                                                            obtain ⟨d0, d1, d2⟩ := s_rd_0 ht
                                                            have ho := hL _ t ht
                                                            have c2 := t_clamp (i := z24) (by omega)
                                                            have e47 : w25.toInt = s_a6 t.2.1 := by rw [e25, show z24.toNatClampNeg = 3 * ar1.toNatClampNeg + 1 by omega]; exact v2
                                                            have h6 : t.2.1 = -1 ∧ t.2.2 = -1 := s_6_y ho (by rw [← e47]; omega)
                                                            rcases (show ar2.toInt = 1 ∨ ar2.toInt = 2 by omega) with e | e
                                                            · rw [e, d1, h6.1]
                                                            · rw [e, d2, h6.2]))⟩⟩
            · have r30 : w25.toInt ≠ 6 := fun e => h26 (Int32.toInt_inj.mp (e.trans (by decide : (6:Int) = (6 : Int32).toInt)))
              refine ev_loc f_X11_reading (nx := 61) rfl rfl rfl rfl ?_
              refine ev_loc f_X11_reading (nx := 62) rfl rfl rfl rfl ?_
              refine ev_getR f_X11_reading (nx := 65) rfl (hI.wf.s rfl) rfl rfl (hI.wf.r rfl) rfl rfl ?_
              refine ev_ic f_X11_reading (nx := 66) (v := 3) rfl (by decide) rfl ?_
              refine ev_loc f_X11_reading (nx := 67) rfl rfl rfl rfl ?_
              refine ev_mulL f_X11_reading (nx := 68) (c := 3) (l := 0) (u := 1419) rfl (by decide) (by decide) l10 u14 rfl rfl (by decide) (by decide) rfl (fun z31 e31 l31 u31 => ?_)
              refine ev_loc f_X11_reading (nx := 69) rfl rfl rfl rfl ?_
              refine ev_addR f_X11_reading (nx := 70) (l := 1) (u := 1421) rfl l31 u31 l22 u6 rfl rfl (by decide) (by decide) rfl (fun z32 e32 l32 u32 => ?_)
              refine ev_ialdT f_X11_reading (nx := 71) rfl (hI.wf.s rfl) l32 (by decide) u32 (by decide) rfl (fun w33 e33 => ?_)
              refine ev_inV2 f_X11_reading (nx := 74) (lo2 := [(0, .ref 0), (1, .int w33)]) rfl rfl rfl rfl f_X11_answer (hI.wf.s rfl) rfl rfl rfl rfl rfl ?_
              refine ev_loc f_X11_answer (nx := 1) rfl rfl rfl rfl ?_
              refine ev_ic f_X11_answer (nx := 2) (v := 0) rfl (by decide) rfl ?_
              refine ev_putIT f_X11_answer (nx := 5) rfl (hI.wf.s rfl) rfl rfl rfl (hI.put0 (hI.wf.s rfl) rfl rfl) (hX.upI rfl) (fun g34 e34 hI hX => ?_)
              refine ev_loc f_X11_answer (nx := 6) rfl rfl rfl rfl ?_
              refine ev_retK1 f_X11_answer rfl rfl rfl ?_
              exact ev_ret f_X11_reading rfl rfl rfl ⟨_, _, _, rfl, hI, hX, ⟨_, rfl, (t_lo w33), (t_hi w33), (show ∀ L : s_RL, s_S1 gi L → s_LO L → ((0 ≤ ar1.toInt ∧ ar1.toInt < (L.length : Int) ∧ 0 ≤ ar2.toInt ∧ ar2.toInt ≤ 2) → w33.toInt = s_rd L ar1.toNatClampNeg ar2.toInt) ∧ (¬ (0 ≤ ar1.toInt ∧ ar1.toInt < (L.length : Int) ∧ 0 ≤ ar2.toInt ∧ ar2.toInt ≤ 2) → w33.toInt = -1) from (by
                                                            intro L h hL
                                                            obtain ⟨hn, hl⟩ := h
                                                            have hk : (gi 0 14).toInt = (L.length : Int) := hn
                                                            refine ⟨fun _ => ?_, fun h => absurd (show _ from ⟨by omega, by omega, by omega, by omega⟩) h⟩
                                                            have c1 := t_clamp (i := ar1) (by omega)
                                                            obtain ⟨t, ht⟩ := s_rd_g (L := L) (k := ar1.toNatClampNeg) (by omega)
                                                            obtain ⟨v1, v2, v3⟩ := hl _ t ht
                                                            obtain ⟨d0, d1, d2⟩ := s_rd_0 ht
                                                            have ho := hL _ t ht
                                                            have c3 := t_clamp (i := z32) (by omega)
                                                            have c2 := t_clamp (i := z24) (by omega)
                                                            have e47 : w25.toInt = s_a6 t.2.1 := by rw [e25, show z24.toNatClampNeg = 3 * ar1.toNatClampNeg + 1 by omega]; exact v2
                                                            obtain ⟨h6, h7⟩ := s_6_n ho (by rw [← e47]; omega)
                                                            rcases (show ar2.toInt = 1 ∨ ar2.toInt = 2 by omega) with e | e
                                                            · rw [e33, show z32.toNatClampNeg = 3 * ar1.toNatClampNeg + 1 by omega, e, d1, ← h6]; exact v2
                                                            · rw [e33, show z32.toNatClampNeg = 3 * ar1.toNatClampNeg + 2 by omega, e, d2, ← h7]; exact v3))⟩⟩
        · have r35 : (gi 0 14).toInt ≤ ar1.toInt := Int32.le_iff_toInt_le.mp (t_nlt h12)
          refine ev_loc f_X11_reading (nx := 28) rfl rfl rfl rfl ?_
          refine ev_bp f_X11_reading (nx := 30) (v := 6) rfl (by decide) rfl ?_
          refine ev_inV2 f_X11_reading (nx := 33) (lo2 := [(0, .ref 0), (1, .int 6)]) rfl rfl rfl rfl f_X11_refuse (hI.wf.s rfl) rfl rfl rfl rfl rfl ?_
          refine ev_loc f_X11_refuse (nx := 1) rfl rfl rfl rfl ?_
          refine ev_loc f_X11_refuse (nx := 2) rfl rfl rfl rfl ?_
          refine ev_putIT f_X11_refuse (nx := 5) rfl (hI.wf.s rfl) rfl rfl rfl (hI.put0 (hI.wf.s rfl) rfl rfl) (hX.upI rfl) (fun g36 e36 hI hX => ?_)
          refine ev_ic f_X11_refuse (nx := 6) (v := -1) rfl (by decide) rfl ?_
          refine ev_retK1 f_X11_refuse rfl rfl rfl ?_
          exact ev_ret f_X11_reading rfl rfl rfl ⟨_, _, _, rfl, hI, hX, ⟨_, rfl, (Int.le_trans (by decide : ((-2147483648):Int) ≤ (-1)) (by decide : ((-1):Int) ≤ ((-1):Int32).toInt)), (Int.le_trans (by decide : ((-1):Int32).toInt ≤ ((-1):Int)) (by decide : ((-1):Int) ≤ 2147483647)), (show ∀ L : s_RL, s_S1 gi L → s_LO L → ((0 ≤ ar1.toInt ∧ ar1.toInt < (L.length : Int) ∧ 0 ≤ ar2.toInt ∧ ar2.toInt ≤ 2) → ((-1) : Int) = s_rd L ar1.toNatClampNeg ar2.toInt) ∧ (¬ (0 ≤ ar1.toInt ∧ ar1.toInt < (L.length : Int) ∧ 0 ≤ ar2.toInt ∧ ar2.toInt ≤ 2) → ((-1) : Int) = -1) from (by
                                                            intro L h hL
                                                            obtain ⟨hn, hl⟩ := h
                                                            have hk : (gi 0 14).toInt = (L.length : Int) := hn
                                                            exact ⟨fun h => absurd h (by omega), fun _ => rfl⟩))⟩⟩
    · have l37 : 3 ≤ ar2.toInt := t_ltl (t_nle h5) (by decide : (2:Int) ≤ (2:Int32).toInt) rfl
      refine ev_loc f_X11_reading (nx := 10) rfl rfl rfl rfl ?_
      refine ev_ic f_X11_reading (nx := 11) (v := 1) rfl (by decide) rfl ?_
      refine ev_inV2 f_X11_reading (nx := 14) (lo2 := [(0, .ref 0), (1, .int 1)]) rfl rfl rfl rfl f_X11_refuse (hI.wf.s rfl) rfl rfl rfl rfl rfl ?_
      refine ev_loc f_X11_refuse (nx := 1) rfl rfl rfl rfl ?_
      refine ev_loc f_X11_refuse (nx := 2) rfl rfl rfl rfl ?_
      refine ev_putIT f_X11_refuse (nx := 5) rfl (hI.wf.s rfl) rfl rfl rfl (hI.put0 (hI.wf.s rfl) rfl rfl) (hX.upI rfl) (fun g38 e38 hI hX => ?_)
      refine ev_ic f_X11_refuse (nx := 6) (v := -1) rfl (by decide) rfl ?_
      refine ev_retK1 f_X11_refuse rfl rfl rfl ?_
      exact ev_ret f_X11_reading rfl rfl rfl ⟨_, _, _, rfl, hI, hX, ⟨_, rfl, (Int.le_trans (by decide : ((-2147483648):Int) ≤ (-1)) (by decide : ((-1):Int) ≤ ((-1):Int32).toInt)), (Int.le_trans (by decide : ((-1):Int32).toInt ≤ ((-1):Int)) (by decide : ((-1):Int) ≤ 2147483647)), (show ∀ L : s_RL, s_S1 gi L → s_LO L → ((0 ≤ ar1.toInt ∧ ar1.toInt < (L.length : Int) ∧ 0 ≤ ar2.toInt ∧ ar2.toInt ≤ 2) → ((-1) : Int) = s_rd L ar1.toNatClampNeg ar2.toInt) ∧ (¬ (0 ≤ ar1.toInt ∧ ar1.toInt < (L.length : Int) ∧ 0 ≤ ar2.toInt ∧ ar2.toInt ≤ 2) → ((-1) : Int) = -1) from (by
                                                            intro L h hL
                                                            obtain ⟨hn, hl⟩ := h
                                                            have hk : (gi 0 14).toInt = (L.length : Int) := hn
                                                            exact ⟨fun h => absurd h (by omega), fun _ => rfl⟩))⟩⟩
noncomputable def wl_e_reading : List (Nat × Nat) := [(69, 2)]
noncomputable def Q_e_reading (gi : Nat → Nat → Int32) (gl : Nat → Nat → Int64) (gr : Nat → Nat → Value) (ar1 : Int32) (ar2 : Int32) : Int32 → (Nat → Nat → Int32) → (Nat → Nat → Int64) → (Nat → Nat → Value) → Prop := fun (v : Int32) (gi2 : Nat → Nat → Int32) (gl2 : Nat → Nat → Int64) (gr2 : Nat → Nat → Value) => ∀ L : s_RL, s_S3 gi L → s_LO L → ((0 ≤ ar1.toInt ∧ ar1.toInt < (L.length : Int) ∧ 0 ≤ ar2.toInt ∧ ar2.toInt ≤ 2) → v.toInt = s_rd L ar1.toNatClampNeg ar2.toInt) ∧ (¬ (0 ≤ ar1.toInt ∧ ar1.toInt < (L.length : Int) ∧ 0 ≤ ar2.toInt ∧ ar2.toInt ≤ 2) → v.toInt = -1)
theorem c_e_reading {X : x_Ext} {d : Nat} {sh : List (Nat ⊕ (Nat × Nat))} {gi : Nat → Nat → Int32} {gl : Nat → Nat → Int64} {gr : Nat → Nat → Value} (hI : t_I sh gi gr) (ar1 : Int32) (ar2 : Int32) : x_Me X (d + 3) n_X12_reading [.ref 69, .int ar1, .int ar2] (sh, gi, gl, gr) (t_PI wl_e_reading sh gi gl gr (-2147483648) 2147483647 (Q_e_reading gi gl gr ar1 ar2)) := by
  have hX : t_X wl_e_reading sh gi gl gr gi gl gr := t_X.rf
  refine me_i f_X12_reading (hI.wf.s rfl) rfl rfl rfl ?_
  refine ev_loc f_X12_reading (nx := 1) rfl rfl rfl rfl ?_
  refine ev_if f_X12_reading (t1 := 9) (t2 := 4) rfl rfl rfl (fun h1 => ?_) (fun h1 => ?_)
  · have u2 : ar2.toInt ≤ (-1) := t_ltu h1 (by decide : (0:Int32).toInt ≤ (0:Int)) rfl
    refine ev_loc f_X12_reading (nx := 10) rfl rfl rfl rfl ?_
    refine ev_ic f_X12_reading (nx := 11) (v := 1) rfl (by decide) rfl ?_
    refine ev_inV2 f_X12_reading (nx := 14) (lo2 := [(0, .ref 69), (1, .int 1)]) rfl rfl rfl rfl f_X12_refuse (hI.wf.s rfl) rfl rfl rfl rfl rfl ?_
    refine ev_loc f_X12_refuse (nx := 1) rfl rfl rfl rfl ?_
    refine ev_loc f_X12_refuse (nx := 2) rfl rfl rfl rfl ?_
    refine ev_putIT f_X12_refuse (nx := 5) rfl (hI.wf.s rfl) rfl rfl rfl (hI.put0 (hI.wf.s rfl) rfl rfl) (hX.upI rfl) (fun g3 e3 hI hX => ?_)
    refine ev_ic f_X12_refuse (nx := 6) (v := -1) rfl (by decide) rfl ?_
    refine ev_retK1 f_X12_refuse rfl rfl rfl ?_
    exact ev_ret f_X12_reading rfl rfl rfl ⟨_, _, _, rfl, hI, hX, ⟨_, rfl, (Int.le_trans (by decide : ((-2147483648):Int) ≤ (-1)) (by decide : ((-1):Int) ≤ ((-1):Int32).toInt)), (Int.le_trans (by decide : ((-1):Int32).toInt ≤ ((-1):Int)) (by decide : ((-1):Int) ≤ 2147483647)), (show ∀ L : s_RL, s_S3 gi L → s_LO L → ((0 ≤ ar1.toInt ∧ ar1.toInt < (L.length : Int) ∧ 0 ≤ ar2.toInt ∧ ar2.toInt ≤ 2) → ((-1) : Int) = s_rd L ar1.toNatClampNeg ar2.toInt) ∧ (¬ (0 ≤ ar1.toInt ∧ ar1.toInt < (L.length : Int) ∧ 0 ≤ ar2.toInt ∧ ar2.toInt ≤ 2) → ((-1) : Int) = -1) from (by
                                                            intro L h hL
                                                            obtain ⟨hn, hl⟩ := h
                                                            have hk : (gi 69 30).toInt = (L.length : Int) := hn
                                                            exact ⟨fun h => absurd h (by omega), fun _ => rfl⟩))⟩⟩
  · have l4 : 0 ≤ ar2.toInt := t_lel (t_nlt h1) (by decide : (0:Int) ≤ (0:Int32).toInt)
    refine ev_loc f_X12_reading (nx := 5) rfl rfl rfl rfl ?_
    refine ev_ic f_X12_reading (nx := 6) (v := 2) rfl (by decide) rfl ?_
    refine ev_if f_X12_reading (t1 := 15) (t2 := 9) rfl rfl rfl (fun h5 => ?_) (fun h5 => ?_)
    · have u6 : ar2.toInt ≤ 2 := t_leu h5 (by decide : (2:Int32).toInt ≤ (2:Int))
      refine ev_loc f_X12_reading (nx := 16) rfl rfl rfl rfl ?_
      refine ev_if f_X12_reading (t1 := 27) (t2 := 19) rfl rfl rfl (fun h7 => ?_) (fun h7 => ?_)
      · have u8 : ar1.toInt ≤ (-1) := t_ltu h7 (by decide : (0:Int32).toInt ≤ (0:Int)) rfl
        refine ev_loc f_X12_reading (nx := 28) rfl rfl rfl rfl ?_
        refine ev_bp f_X12_reading (nx := 30) (v := 6) rfl (by decide) rfl ?_
        refine ev_inV2 f_X12_reading (nx := 33) (lo2 := [(0, .ref 69), (1, .int 6)]) rfl rfl rfl rfl f_X12_refuse (hI.wf.s rfl) rfl rfl rfl rfl rfl ?_
        refine ev_loc f_X12_refuse (nx := 1) rfl rfl rfl rfl ?_
        refine ev_loc f_X12_refuse (nx := 2) rfl rfl rfl rfl ?_
        refine ev_putIT f_X12_refuse (nx := 5) rfl (hI.wf.s rfl) rfl rfl rfl (hI.put0 (hI.wf.s rfl) rfl rfl) (hX.upI rfl) (fun g9 e9 hI hX => ?_)
        refine ev_ic f_X12_refuse (nx := 6) (v := -1) rfl (by decide) rfl ?_
        refine ev_retK1 f_X12_refuse rfl rfl rfl ?_
        exact ev_ret f_X12_reading rfl rfl rfl ⟨_, _, _, rfl, hI, hX, ⟨_, rfl, (Int.le_trans (by decide : ((-2147483648):Int) ≤ (-1)) (by decide : ((-1):Int) ≤ ((-1):Int32).toInt)), (Int.le_trans (by decide : ((-1):Int32).toInt ≤ ((-1):Int)) (by decide : ((-1):Int) ≤ 2147483647)), (show ∀ L : s_RL, s_S3 gi L → s_LO L → ((0 ≤ ar1.toInt ∧ ar1.toInt < (L.length : Int) ∧ 0 ≤ ar2.toInt ∧ ar2.toInt ≤ 2) → ((-1) : Int) = s_rd L ar1.toNatClampNeg ar2.toInt) ∧ (¬ (0 ≤ ar1.toInt ∧ ar1.toInt < (L.length : Int) ∧ 0 ≤ ar2.toInt ∧ ar2.toInt ≤ 2) → ((-1) : Int) = -1) from (by
                                                            intro L h hL
                                                            obtain ⟨hn, hl⟩ := h
                                                            have hk : (gi 69 30).toInt = (L.length : Int) := hn
                                                            exact ⟨fun h => absurd h (by omega), fun _ => rfl⟩))⟩⟩
      · have l10 : 0 ≤ ar1.toInt := t_lel (t_nlt h7) (by decide : (0:Int) ≤ (0:Int32).toInt)
        refine ev_loc f_X12_reading (nx := 20) rfl rfl rfl rfl ?_
        refine ev_loc f_X12_reading (nx := 21) rfl rfl rfl rfl ?_
        refine ev_getI f_X12_reading (nx := 24) rfl (hI.wf.s rfl) rfl rfl rfl ?_
        obtain ⟨l11, u11⟩ := hI.b (hI.wf.s (k := 69) rfl) (t_bdK rfl : t_bd 11 30 = some (0, 500))
        refine ev_if f_X12_reading (t1 := 34) (t2 := 27) rfl rfl rfl (fun h12 => ?_) (fun h12 => ?_)
        · have r13 : ar1.toInt < (gi 69 30).toInt := Int32.lt_iff_toInt_lt.mp h12
          have u14 : ar1.toInt ≤ 499 := t_ltu h12 u11 rfl
          have l15 : 1 ≤ (gi 69 30).toInt := t_ltl h12 l10 rfl
          refine ev_loc f_X12_reading (nx := 35) rfl rfl rfl rfl ?_
          refine ev_loc f_X12_reading (nx := 36) rfl rfl rfl rfl ?_
          refine ev_if f_X12_reading (t1 := 39) (t2 := 48) rfl rfl rfl (fun h16 => ?_) (fun h16 => ?_)
          · have u17 : ar2.toInt ≤ 0 := t_equ h16 (by decide : (0:Int32).toInt ≤ (0:Int))
            refine ev_loc f_X12_reading (nx := 40) rfl rfl rfl rfl ?_
            refine ev_getR f_X12_reading (nx := 43) rfl (hI.wf.s rfl) rfl rfl (hI.wf.r rfl) rfl rfl ?_
            refine ev_loc f_X12_reading (nx := 44) rfl rfl rfl rfl ?_
            refine ev_ialdT f_X12_reading (nx := 45) rfl (hI.wf.s rfl) l10 (by decide) u14 (by decide) rfl (fun w18 e18 => ?_)
            refine ev_jmp f_X12_reading (nx := 68) rfl rfl rfl ?_
            refine ev_inV2 f_X12_reading (nx := 71) (lo2 := [(0, .ref 69), (1, .int w18)]) rfl rfl rfl rfl f_X12_orNone (hI.wf.s rfl) rfl rfl rfl rfl rfl ?_
            refine ev_loc f_X12_orNone (nx := 1) rfl rfl rfl rfl ?_
            refine ev_ic f_X12_orNone (nx := 2) (v := -1) rfl (by decide) rfl ?_
            refine ev_if f_X12_orNone (t1 := 5) (t2 := 14) rfl rfl rfl (fun h19 => ?_) (fun h19 => ?_)
            · have u20 : w18.toInt ≤ (-1) := t_equ h19 (by decide : ((-1):Int32).toInt ≤ ((-1):Int))
              have l21 : (-1) ≤ w18.toInt := t_eql h19 (by decide : ((-1):Int) ≤ ((-1):Int32).toInt)
              refine ev_loc f_X12_orNone (nx := 6) rfl rfl rfl rfl ?_
              refine ev_bp f_X12_orNone (nx := 8) (v := 6) rfl (by decide) rfl ?_
              refine ev_inV2 f_X12_orNone (nx := 11) (lo2 := [(0, .ref 69), (1, .int 6)]) rfl rfl rfl rfl f_X12_refuse (hI.wf.s rfl) rfl rfl rfl rfl rfl ?_
              refine ev_loc f_X12_refuse (nx := 1) rfl rfl rfl rfl ?_
              refine ev_loc f_X12_refuse (nx := 2) rfl rfl rfl rfl ?_
              refine ev_putIT f_X12_refuse (nx := 5) rfl (hI.wf.s rfl) rfl rfl rfl (hI.put0 (hI.wf.s rfl) rfl rfl) (hX.upI rfl) (fun g22 e22 hI hX => ?_)
              refine ev_ic f_X12_refuse (nx := 6) (v := -1) rfl (by decide) rfl ?_
              refine ev_retK1 f_X12_refuse rfl rfl rfl ?_
              refine ev_jmp f_X12_orNone (nx := 19) rfl rfl rfl ?_
              refine ev_retK1 f_X12_orNone rfl rfl rfl ?_
              exact ev_ret f_X12_reading rfl rfl rfl ⟨_, _, _, rfl, hI, hX, ⟨_, rfl, (Int.le_trans (by decide : ((-2147483648):Int) ≤ (-1)) (by decide : ((-1):Int) ≤ ((-1):Int32).toInt)), (Int.le_trans (by decide : ((-1):Int32).toInt ≤ ((-1):Int)) (by decide : ((-1):Int) ≤ 2147483647)), (show ∀ L : s_RL, s_S3 gi L → s_LO L → ((0 ≤ ar1.toInt ∧ ar1.toInt < (L.length : Int) ∧ 0 ≤ ar2.toInt ∧ ar2.toInt ≤ 2) → ((-1) : Int) = s_rd L ar1.toNatClampNeg ar2.toInt) ∧ (¬ (0 ≤ ar1.toInt ∧ ar1.toInt < (L.length : Int) ∧ 0 ≤ ar2.toInt ∧ ar2.toInt ≤ 2) → ((-1) : Int) = -1) from (by
                                                            intro L h hL
                                                            obtain ⟨hn, hl⟩ := h
                                                            have hk : (gi 69 30).toInt = (L.length : Int) := hn
                                                            refine ⟨fun _ => ?_, fun h => absurd (show _ from ⟨by omega, by omega, by omega, by omega⟩) h⟩
                                                            have c1 := t_clamp (i := ar1) (by omega)
                                                            obtain ⟨t, ht⟩ := s_rd_g (L := L) (k := ar1.toNatClampNeg) (by omega)
                                                            obtain ⟨v1, v2, v3⟩ := hl _ t ht
                                                            obtain ⟨d0, d1, d2⟩ := s_rd_0 ht
                                                            have ho := hL _ t ht
                                                            have ew : w18.toInt = t.1 := by rw [e18]; exact v1
                                                            rw [show ar2.toInt = 0 by omega, d0, ← ew]
                                                            have k1 : (-1 : Int32).toInt = -1 := rfl
                                                            omega))⟩⟩
            · have r23 : w18.toInt ≠ (-1) := fun e => h19 (Int32.toInt_inj.mp (e.trans (by decide : ((-1):Int) = ((-1) : Int32).toInt)))
              refine ev_loc f_X12_orNone (nx := 15) rfl rfl rfl rfl ?_
              refine ev_loc f_X12_orNone (nx := 16) rfl rfl rfl rfl ?_
              refine ev_inV2 f_X12_orNone (nx := 19) (lo2 := [(0, .ref 69), (1, .int w18)]) rfl rfl rfl rfl f_X12_gives (hI.wf.s rfl) rfl rfl rfl rfl rfl ?_
              refine ev_loc f_X12_gives (nx := 1) rfl rfl rfl rfl ?_
              refine ev_ic f_X12_gives (nx := 2) (v := 0) rfl (by decide) rfl ?_
              refine ev_putIT f_X12_gives (nx := 5) rfl (hI.wf.s rfl) rfl rfl rfl (hI.put0 (hI.wf.s rfl) rfl rfl) (hX.upI rfl) (fun g24 e24 hI hX => ?_)
              refine ev_loc f_X12_gives (nx := 6) rfl rfl rfl rfl ?_
              refine ev_retK1 f_X12_gives rfl rfl rfl ?_
              refine ev_retK1 f_X12_orNone rfl rfl rfl ?_
              exact ev_ret f_X12_reading rfl rfl rfl ⟨_, _, _, rfl, hI, hX, ⟨_, rfl, (t_lo w18), (t_hi w18), (show ∀ L : s_RL, s_S3 gi L → s_LO L → ((0 ≤ ar1.toInt ∧ ar1.toInt < (L.length : Int) ∧ 0 ≤ ar2.toInt ∧ ar2.toInt ≤ 2) → w18.toInt = s_rd L ar1.toNatClampNeg ar2.toInt) ∧ (¬ (0 ≤ ar1.toInt ∧ ar1.toInt < (L.length : Int) ∧ 0 ≤ ar2.toInt ∧ ar2.toInt ≤ 2) → w18.toInt = -1) from (by
                                                            intro L h hL
                                                            obtain ⟨hn, hl⟩ := h
                                                            have hk : (gi 69 30).toInt = (L.length : Int) := hn
                                                            refine ⟨fun _ => ?_, fun h => absurd (show _ from ⟨by omega, by omega, by omega, by omega⟩) h⟩
                                                            have c1 := t_clamp (i := ar1) (by omega)
                                                            obtain ⟨t, ht⟩ := s_rd_g (L := L) (k := ar1.toNatClampNeg) (by omega)
                                                            obtain ⟨v1, v2, v3⟩ := hl _ t ht
                                                            obtain ⟨d0, d1, d2⟩ := s_rd_0 ht
                                                            have ho := hL _ t ht
                                                            have ew : w18.toInt = t.1 := by rw [e18]; exact v1
                                                            rw [show ar2.toInt = 0 by omega, d0, ← ew]))⟩⟩
          · have r25 : ar2.toInt ≠ 0 := fun e => h16 (Int32.toInt_inj.mp (e.trans (by decide : (0:Int) = (0 : Int32).toInt)))
            have l26 : 1 ≤ ar2.toInt := t_nel h16 l4 rfl rfl
            refine ev_loc f_X12_reading (nx := 49) rfl rfl rfl rfl ?_
            refine ev_ic f_X12_reading (nx := 50) (v := 1) rfl (by decide) rfl ?_
            refine ev_if f_X12_reading (t1 := 53) (t2 := 62) rfl rfl rfl (fun h27 => ?_) (fun h27 => ?_)
            · have u28 : ar2.toInt ≤ 1 := t_equ h27 (by decide : (1:Int32).toInt ≤ (1:Int))
              refine ev_loc f_X12_reading (nx := 54) rfl rfl rfl rfl ?_
              refine ev_getR f_X12_reading (nx := 57) rfl (hI.wf.s rfl) rfl rfl (hI.wf.r rfl) rfl rfl ?_
              refine ev_loc f_X12_reading (nx := 58) rfl rfl rfl rfl ?_
              refine ev_ialdT f_X12_reading (nx := 59) rfl (hI.wf.s rfl) l10 (by decide) u14 (by decide) rfl (fun w29 e29 => ?_)
              refine ev_jmp f_X12_reading (nx := 68) rfl rfl rfl ?_
              refine ev_inV2 f_X12_reading (nx := 71) (lo2 := [(0, .ref 69), (1, .int w29)]) rfl rfl rfl rfl f_X12_orNone (hI.wf.s rfl) rfl rfl rfl rfl rfl ?_
              refine ev_loc f_X12_orNone (nx := 1) rfl rfl rfl rfl ?_
              refine ev_ic f_X12_orNone (nx := 2) (v := -1) rfl (by decide) rfl ?_
              refine ev_if f_X12_orNone (t1 := 5) (t2 := 14) rfl rfl rfl (fun h30 => ?_) (fun h30 => ?_)
              · have u31 : w29.toInt ≤ (-1) := t_equ h30 (by decide : ((-1):Int32).toInt ≤ ((-1):Int))
                have l32 : (-1) ≤ w29.toInt := t_eql h30 (by decide : ((-1):Int) ≤ ((-1):Int32).toInt)
                refine ev_loc f_X12_orNone (nx := 6) rfl rfl rfl rfl ?_
                refine ev_bp f_X12_orNone (nx := 8) (v := 6) rfl (by decide) rfl ?_
                refine ev_inV2 f_X12_orNone (nx := 11) (lo2 := [(0, .ref 69), (1, .int 6)]) rfl rfl rfl rfl f_X12_refuse (hI.wf.s rfl) rfl rfl rfl rfl rfl ?_
                refine ev_loc f_X12_refuse (nx := 1) rfl rfl rfl rfl ?_
                refine ev_loc f_X12_refuse (nx := 2) rfl rfl rfl rfl ?_
                refine ev_putIT f_X12_refuse (nx := 5) rfl (hI.wf.s rfl) rfl rfl rfl (hI.put0 (hI.wf.s rfl) rfl rfl) (hX.upI rfl) (fun g33 e33 hI hX => ?_)
                refine ev_ic f_X12_refuse (nx := 6) (v := -1) rfl (by decide) rfl ?_
                refine ev_retK1 f_X12_refuse rfl rfl rfl ?_
                refine ev_jmp f_X12_orNone (nx := 19) rfl rfl rfl ?_
                refine ev_retK1 f_X12_orNone rfl rfl rfl ?_
                exact ev_ret f_X12_reading rfl rfl rfl ⟨_, _, _, rfl, hI, hX, ⟨_, rfl, (Int.le_trans (by decide : ((-2147483648):Int) ≤ (-1)) (by decide : ((-1):Int) ≤ ((-1):Int32).toInt)), (Int.le_trans (by decide : ((-1):Int32).toInt ≤ ((-1):Int)) (by decide : ((-1):Int) ≤ 2147483647)), (show ∀ L : s_RL, s_S3 gi L → s_LO L → ((0 ≤ ar1.toInt ∧ ar1.toInt < (L.length : Int) ∧ 0 ≤ ar2.toInt ∧ ar2.toInt ≤ 2) → ((-1) : Int) = s_rd L ar1.toNatClampNeg ar2.toInt) ∧ (¬ (0 ≤ ar1.toInt ∧ ar1.toInt < (L.length : Int) ∧ 0 ≤ ar2.toInt ∧ ar2.toInt ≤ 2) → ((-1) : Int) = -1) from (by
                                                            intro L h hL
                                                            obtain ⟨hn, hl⟩ := h
                                                            have hk : (gi 69 30).toInt = (L.length : Int) := hn
                                                            refine ⟨fun _ => ?_, fun h => absurd (show _ from ⟨by omega, by omega, by omega, by omega⟩) h⟩
                                                            have c1 := t_clamp (i := ar1) (by omega)
                                                            obtain ⟨t, ht⟩ := s_rd_g (L := L) (k := ar1.toNatClampNeg) (by omega)
                                                            obtain ⟨v1, v2, v3⟩ := hl _ t ht
                                                            obtain ⟨d0, d1, d2⟩ := s_rd_0 ht
                                                            have ho := hL _ t ht
                                                            have ew : w29.toInt = t.2.1 := by rw [e29]; exact v2
                                                            rw [show ar2.toInt = 1 by omega, d1, ← ew]
                                                            have k1 : (-1 : Int32).toInt = -1 := rfl
                                                            omega))⟩⟩
              · have r34 : w29.toInt ≠ (-1) := fun e => h30 (Int32.toInt_inj.mp (e.trans (by decide : ((-1):Int) = ((-1) : Int32).toInt)))
                refine ev_loc f_X12_orNone (nx := 15) rfl rfl rfl rfl ?_
                refine ev_loc f_X12_orNone (nx := 16) rfl rfl rfl rfl ?_
                refine ev_inV2 f_X12_orNone (nx := 19) (lo2 := [(0, .ref 69), (1, .int w29)]) rfl rfl rfl rfl f_X12_gives (hI.wf.s rfl) rfl rfl rfl rfl rfl ?_
                refine ev_loc f_X12_gives (nx := 1) rfl rfl rfl rfl ?_
                refine ev_ic f_X12_gives (nx := 2) (v := 0) rfl (by decide) rfl ?_
                refine ev_putIT f_X12_gives (nx := 5) rfl (hI.wf.s rfl) rfl rfl rfl (hI.put0 (hI.wf.s rfl) rfl rfl) (hX.upI rfl) (fun g35 e35 hI hX => ?_)
                refine ev_loc f_X12_gives (nx := 6) rfl rfl rfl rfl ?_
                refine ev_retK1 f_X12_gives rfl rfl rfl ?_
                refine ev_retK1 f_X12_orNone rfl rfl rfl ?_
                exact ev_ret f_X12_reading rfl rfl rfl ⟨_, _, _, rfl, hI, hX, ⟨_, rfl, (t_lo w29), (t_hi w29), (show ∀ L : s_RL, s_S3 gi L → s_LO L → ((0 ≤ ar1.toInt ∧ ar1.toInt < (L.length : Int) ∧ 0 ≤ ar2.toInt ∧ ar2.toInt ≤ 2) → w29.toInt = s_rd L ar1.toNatClampNeg ar2.toInt) ∧ (¬ (0 ≤ ar1.toInt ∧ ar1.toInt < (L.length : Int) ∧ 0 ≤ ar2.toInt ∧ ar2.toInt ≤ 2) → w29.toInt = -1) from (by
                                                            intro L h hL
                                                            obtain ⟨hn, hl⟩ := h
                                                            have hk : (gi 69 30).toInt = (L.length : Int) := hn
                                                            refine ⟨fun _ => ?_, fun h => absurd (show _ from ⟨by omega, by omega, by omega, by omega⟩) h⟩
                                                            have c1 := t_clamp (i := ar1) (by omega)
                                                            obtain ⟨t, ht⟩ := s_rd_g (L := L) (k := ar1.toNatClampNeg) (by omega)
                                                            obtain ⟨v1, v2, v3⟩ := hl _ t ht
                                                            obtain ⟨d0, d1, d2⟩ := s_rd_0 ht
                                                            have ho := hL _ t ht
                                                            have ew : w29.toInt = t.2.1 := by rw [e29]; exact v2
                                                            rw [show ar2.toInt = 1 by omega, d1, ← ew]))⟩⟩
            · have r36 : ar2.toInt ≠ 1 := fun e => h27 (Int32.toInt_inj.mp (e.trans (by decide : (1:Int) = (1 : Int32).toInt)))
              have l37 : 2 ≤ ar2.toInt := t_nel h27 l26 rfl rfl
              refine ev_loc f_X12_reading (nx := 63) rfl rfl rfl rfl ?_
              refine ev_getR f_X12_reading (nx := 66) rfl (hI.wf.s rfl) rfl rfl (hI.wf.r rfl) rfl rfl ?_
              refine ev_loc f_X12_reading (nx := 67) rfl rfl rfl rfl ?_
              refine ev_ialdT f_X12_reading (nx := 68) rfl (hI.wf.s rfl) l10 (by decide) u14 (by decide) rfl (fun w38 e38 => ?_)
              refine ev_inV2 f_X12_reading (nx := 71) (lo2 := [(0, .ref 69), (1, .int w38)]) rfl rfl rfl rfl f_X12_orNone (hI.wf.s rfl) rfl rfl rfl rfl rfl ?_
              refine ev_loc f_X12_orNone (nx := 1) rfl rfl rfl rfl ?_
              refine ev_ic f_X12_orNone (nx := 2) (v := -1) rfl (by decide) rfl ?_
              refine ev_if f_X12_orNone (t1 := 5) (t2 := 14) rfl rfl rfl (fun h39 => ?_) (fun h39 => ?_)
              · have u40 : w38.toInt ≤ (-1) := t_equ h39 (by decide : ((-1):Int32).toInt ≤ ((-1):Int))
                have l41 : (-1) ≤ w38.toInt := t_eql h39 (by decide : ((-1):Int) ≤ ((-1):Int32).toInt)
                refine ev_loc f_X12_orNone (nx := 6) rfl rfl rfl rfl ?_
                refine ev_bp f_X12_orNone (nx := 8) (v := 6) rfl (by decide) rfl ?_
                refine ev_inV2 f_X12_orNone (nx := 11) (lo2 := [(0, .ref 69), (1, .int 6)]) rfl rfl rfl rfl f_X12_refuse (hI.wf.s rfl) rfl rfl rfl rfl rfl ?_
                refine ev_loc f_X12_refuse (nx := 1) rfl rfl rfl rfl ?_
                refine ev_loc f_X12_refuse (nx := 2) rfl rfl rfl rfl ?_
                refine ev_putIT f_X12_refuse (nx := 5) rfl (hI.wf.s rfl) rfl rfl rfl (hI.put0 (hI.wf.s rfl) rfl rfl) (hX.upI rfl) (fun g42 e42 hI hX => ?_)
                refine ev_ic f_X12_refuse (nx := 6) (v := -1) rfl (by decide) rfl ?_
                refine ev_retK1 f_X12_refuse rfl rfl rfl ?_
                refine ev_jmp f_X12_orNone (nx := 19) rfl rfl rfl ?_
                refine ev_retK1 f_X12_orNone rfl rfl rfl ?_
                exact ev_ret f_X12_reading rfl rfl rfl ⟨_, _, _, rfl, hI, hX, ⟨_, rfl, (Int.le_trans (by decide : ((-2147483648):Int) ≤ (-1)) (by decide : ((-1):Int) ≤ ((-1):Int32).toInt)), (Int.le_trans (by decide : ((-1):Int32).toInt ≤ ((-1):Int)) (by decide : ((-1):Int) ≤ 2147483647)), (show ∀ L : s_RL, s_S3 gi L → s_LO L → ((0 ≤ ar1.toInt ∧ ar1.toInt < (L.length : Int) ∧ 0 ≤ ar2.toInt ∧ ar2.toInt ≤ 2) → ((-1) : Int) = s_rd L ar1.toNatClampNeg ar2.toInt) ∧ (¬ (0 ≤ ar1.toInt ∧ ar1.toInt < (L.length : Int) ∧ 0 ≤ ar2.toInt ∧ ar2.toInt ≤ 2) → ((-1) : Int) = -1) from (by
                                                            intro L h hL
                                                            obtain ⟨hn, hl⟩ := h
                                                            have hk : (gi 69 30).toInt = (L.length : Int) := hn
                                                            refine ⟨fun _ => ?_, fun h => absurd (show _ from ⟨by omega, by omega, by omega, by omega⟩) h⟩
                                                            have c1 := t_clamp (i := ar1) (by omega)
                                                            obtain ⟨t, ht⟩ := s_rd_g (L := L) (k := ar1.toNatClampNeg) (by omega)
                                                            obtain ⟨v1, v2, v3⟩ := hl _ t ht
                                                            obtain ⟨d0, d1, d2⟩ := s_rd_0 ht
                                                            have ho := hL _ t ht
                                                            have ew : w38.toInt = t.2.2 := by rw [e38]; exact v3
                                                            rw [show ar2.toInt = 2 by omega, d2, ← ew]
                                                            have k1 : (-1 : Int32).toInt = -1 := rfl
                                                            omega))⟩⟩
              · have r43 : w38.toInt ≠ (-1) := fun e => h39 (Int32.toInt_inj.mp (e.trans (by decide : ((-1):Int) = ((-1) : Int32).toInt)))
                refine ev_loc f_X12_orNone (nx := 15) rfl rfl rfl rfl ?_
                refine ev_loc f_X12_orNone (nx := 16) rfl rfl rfl rfl ?_
                refine ev_inV2 f_X12_orNone (nx := 19) (lo2 := [(0, .ref 69), (1, .int w38)]) rfl rfl rfl rfl f_X12_gives (hI.wf.s rfl) rfl rfl rfl rfl rfl ?_
                refine ev_loc f_X12_gives (nx := 1) rfl rfl rfl rfl ?_
                refine ev_ic f_X12_gives (nx := 2) (v := 0) rfl (by decide) rfl ?_
                refine ev_putIT f_X12_gives (nx := 5) rfl (hI.wf.s rfl) rfl rfl rfl (hI.put0 (hI.wf.s rfl) rfl rfl) (hX.upI rfl) (fun g44 e44 hI hX => ?_)
                refine ev_loc f_X12_gives (nx := 6) rfl rfl rfl rfl ?_
                refine ev_retK1 f_X12_gives rfl rfl rfl ?_
                refine ev_retK1 f_X12_orNone rfl rfl rfl ?_
                exact ev_ret f_X12_reading rfl rfl rfl ⟨_, _, _, rfl, hI, hX, ⟨_, rfl, (t_lo w38), (t_hi w38), (show ∀ L : s_RL, s_S3 gi L → s_LO L → ((0 ≤ ar1.toInt ∧ ar1.toInt < (L.length : Int) ∧ 0 ≤ ar2.toInt ∧ ar2.toInt ≤ 2) → w38.toInt = s_rd L ar1.toNatClampNeg ar2.toInt) ∧ (¬ (0 ≤ ar1.toInt ∧ ar1.toInt < (L.length : Int) ∧ 0 ≤ ar2.toInt ∧ ar2.toInt ≤ 2) → w38.toInt = -1) from (by
                                                            intro L h hL
                                                            obtain ⟨hn, hl⟩ := h
                                                            have hk : (gi 69 30).toInt = (L.length : Int) := hn
                                                            refine ⟨fun _ => ?_, fun h => absurd (show _ from ⟨by omega, by omega, by omega, by omega⟩) h⟩
                                                            have c1 := t_clamp (i := ar1) (by omega)
                                                            obtain ⟨t, ht⟩ := s_rd_g (L := L) (k := ar1.toNatClampNeg) (by omega)
                                                            obtain ⟨v1, v2, v3⟩ := hl _ t ht
                                                            obtain ⟨d0, d1, d2⟩ := s_rd_0 ht
                                                            have ho := hL _ t ht
                                                            have ew : w38.toInt = t.2.2 := by rw [e38]; exact v3
                                                            rw [show ar2.toInt = 2 by omega, d2, ← ew]))⟩⟩
        · have r45 : (gi 69 30).toInt ≤ ar1.toInt := Int32.le_iff_toInt_le.mp (t_nlt h12)
          refine ev_loc f_X12_reading (nx := 28) rfl rfl rfl rfl ?_
          refine ev_bp f_X12_reading (nx := 30) (v := 6) rfl (by decide) rfl ?_
          refine ev_inV2 f_X12_reading (nx := 33) (lo2 := [(0, .ref 69), (1, .int 6)]) rfl rfl rfl rfl f_X12_refuse (hI.wf.s rfl) rfl rfl rfl rfl rfl ?_
          refine ev_loc f_X12_refuse (nx := 1) rfl rfl rfl rfl ?_
          refine ev_loc f_X12_refuse (nx := 2) rfl rfl rfl rfl ?_
          refine ev_putIT f_X12_refuse (nx := 5) rfl (hI.wf.s rfl) rfl rfl rfl (hI.put0 (hI.wf.s rfl) rfl rfl) (hX.upI rfl) (fun g46 e46 hI hX => ?_)
          refine ev_ic f_X12_refuse (nx := 6) (v := -1) rfl (by decide) rfl ?_
          refine ev_retK1 f_X12_refuse rfl rfl rfl ?_
          exact ev_ret f_X12_reading rfl rfl rfl ⟨_, _, _, rfl, hI, hX, ⟨_, rfl, (Int.le_trans (by decide : ((-2147483648):Int) ≤ (-1)) (by decide : ((-1):Int) ≤ ((-1):Int32).toInt)), (Int.le_trans (by decide : ((-1):Int32).toInt ≤ ((-1):Int)) (by decide : ((-1):Int) ≤ 2147483647)), (show ∀ L : s_RL, s_S3 gi L → s_LO L → ((0 ≤ ar1.toInt ∧ ar1.toInt < (L.length : Int) ∧ 0 ≤ ar2.toInt ∧ ar2.toInt ≤ 2) → ((-1) : Int) = s_rd L ar1.toNatClampNeg ar2.toInt) ∧ (¬ (0 ≤ ar1.toInt ∧ ar1.toInt < (L.length : Int) ∧ 0 ≤ ar2.toInt ∧ ar2.toInt ≤ 2) → ((-1) : Int) = -1) from (by
                                                            intro L h hL
                                                            obtain ⟨hn, hl⟩ := h
                                                            have hk : (gi 69 30).toInt = (L.length : Int) := hn
                                                            exact ⟨fun h => absurd h (by omega), fun _ => rfl⟩))⟩⟩
    · have l47 : 3 ≤ ar2.toInt := t_ltl (t_nle h5) (by decide : (2:Int) ≤ (2:Int32).toInt) rfl
      refine ev_loc f_X12_reading (nx := 10) rfl rfl rfl rfl ?_
      refine ev_ic f_X12_reading (nx := 11) (v := 1) rfl (by decide) rfl ?_
      refine ev_inV2 f_X12_reading (nx := 14) (lo2 := [(0, .ref 69), (1, .int 1)]) rfl rfl rfl rfl f_X12_refuse (hI.wf.s rfl) rfl rfl rfl rfl rfl ?_
      refine ev_loc f_X12_refuse (nx := 1) rfl rfl rfl rfl ?_
      refine ev_loc f_X12_refuse (nx := 2) rfl rfl rfl rfl ?_
      refine ev_putIT f_X12_refuse (nx := 5) rfl (hI.wf.s rfl) rfl rfl rfl (hI.put0 (hI.wf.s rfl) rfl rfl) (hX.upI rfl) (fun g48 e48 hI hX => ?_)
      refine ev_ic f_X12_refuse (nx := 6) (v := -1) rfl (by decide) rfl ?_
      refine ev_retK1 f_X12_refuse rfl rfl rfl ?_
      exact ev_ret f_X12_reading rfl rfl rfl ⟨_, _, _, rfl, hI, hX, ⟨_, rfl, (Int.le_trans (by decide : ((-2147483648):Int) ≤ (-1)) (by decide : ((-1):Int) ≤ ((-1):Int32).toInt)), (Int.le_trans (by decide : ((-1):Int32).toInt ≤ ((-1):Int)) (by decide : ((-1):Int) ≤ 2147483647)), (show ∀ L : s_RL, s_S3 gi L → s_LO L → ((0 ≤ ar1.toInt ∧ ar1.toInt < (L.length : Int) ∧ 0 ≤ ar2.toInt ∧ ar2.toInt ≤ 2) → ((-1) : Int) = s_rd L ar1.toNatClampNeg ar2.toInt) ∧ (¬ (0 ≤ ar1.toInt ∧ ar1.toInt < (L.length : Int) ∧ 0 ≤ ar2.toInt ∧ ar2.toInt ≤ 2) → ((-1) : Int) = -1) from (by
                                                            intro L h hL
                                                            obtain ⟨hn, hl⟩ := h
                                                            have hk : (gi 69 30).toInt = (L.length : Int) := hn
                                                            exact ⟨fun h => absurd h (by omega), fun _ => rfl⟩))⟩⟩
/-! ===== the READINGS that were told last are kept alike; readings, reading: the answers are alike ===== -/
section RLO
variable {D : s_D} {x : Int64} {a b e p : Int} {L L2 : s_RL} {t : Int × Int × Int}
theorem s_LO_n : s_LO [] := fun k t h => absurd h (by intro h2; cases h2)
theorem s_LO_c (h : s_tO t) (hl : s_LO L) : s_LO (t :: L) := by
  intro k t' hk
  cases k with
  | zero => exact Option.some.inj hk ▸ h
  | succ k => exact hl k t' hk
theorem s_LO_a (h : s_LO L) (h2 : s_LO L2) : s_LO (L ++ L2) := by
  intro k t hk
  by_cases hl : k < L.length
  · rw [List.getElem?_append_left hl] at hk; exact h k t hk
  · rw [List.getElem?_append_right (by omega)] at hk; exact h2 _ t hk
theorem s_rE_O (ha : 0 ≤ a) (hb : 0 ≤ b) (hb5 : b ≤ 5) : ∀ (m : Nat) (e : Int), 0 ≤ e → s_LO (s_rE D x a b m e)
  | 0, _, _ => s_LO_n
  | m + 1, e, he => by
    have h1 := s_rE_O ha hb hb5 m (e + 1) (by omega)
    show s_LO (s_if (s_bw D a b e = x) _ _)
    by_cases h : s_bw D a b e = x
    · rw [s_ifT h]; exact s_LO_c ⟨ha, Or.inr ⟨hb, hb5, he⟩⟩ h1
    · rw [s_ifF h]; exact h1
theorem s_lb_n : 0 ≤ s_lb a b := by
  unfold s_lb
  by_cases h : b < a
  · rw [if_pos h]; decide
  · rw [if_neg h]; decide
theorem s_rB_O (ha : 0 ≤ a) : ∀ (m : Nat) (b : Int), 0 ≤ b → b + (m : Int) ≤ 6 → s_LO (s_rB D x a m b)
  | 0, _, _, _ => s_LO_n
  | m + 1, b, hb, h6 => s_LO_a (s_rE_O ha hb (by omega) _ _ s_lb_n) (s_rB_O ha m (b + 1) (by omega) (by omega))
theorem s_rA_O (h6 : ((D 0).toNat : Int) ≤ 6) : ∀ (m : Nat) (a : Int), 0 ≤ a → s_LO (s_rA D x m a)
  | 0, _, _ => s_LO_n
  | m + 1, a, ha => s_LO_a (s_rB_O ha _ 0 (by omega) (by omega)) (s_rA_O h6 m (a + 1) (by omega))
theorem s_rP_O : ∀ (m : Nat) (p : Int), 0 ≤ p → s_LO (s_rP D x m p)
  | 0, _, _ => s_LO_n
  | m + 1, p, hp => by
    have h1 := s_rP_O m (p + 1) (by omega)
    show s_LO (s_if (s_hd D p = x) _ _)
    by_cases h : s_hd D p = x
    · rw [s_ifT h]; exact s_LO_c ⟨hp, Or.inl ⟨rfl, rfl⟩⟩ h1
    · rw [s_ifF h]; exact h1
theorem s_rL_O (h6 : D 0 ≤ 6) : s_LO (s_rL D x) := s_LO_a (s_rP_O _ 0 (by decide)) (s_rA_O (by omega) _ 0 (by decide))
end RLO
noncomputable def t_RG (g : Nat → Nat → Int32) : Prop := ∃ L, s_S1 g L ∧ s_S3 g L ∧ s_LO L
noncomputable def t_LE (c : Nat) (sh : List (Nat ⊕ (Nat × Nat))) (gi : Nat → Nat → Int32) (gl : Nat → Nat → Int64) (gr : Nat → Nat → Value) : Prop := t_LD c sh gi gl gr ∧ t_RG gi
noncomputable def t_rg1 (w : List (Nat × Nat)) : Bool := t_un w (0, 14) && t_nc w 21
noncomputable def t_rg3 (w : List (Nat × Nat)) : Bool := t_un w (69, 30) && (t_nc w 81 && (t_nc w 82 && t_nc w 83))
section RGS
variable {sh : List (Nat ⊕ (Nat × Nat))} {gi g1 g2 : Nat → Nat → Int32} {gl l1 l2 : Nat → Nat → Int64} {gr r1 r2 : Nat → Nat → Value} {w1 w2 : List (Nat × Nat)} {A A2 : Int32} {Y : Int64} {x1 x2 : Int32} {L : s_RL}
theorem s_S1.fr (h : s_S1 gi L) (f : t_F w1 gi gl gr g1 l1 r1) (hw : t_rg1 w1 = true) : s_S1 g1 L := by
  unfold t_rg1 at hw
  simp only [Bool.and_eq_true] at hw
  exact h.cg (f 0 14 (by decide) (t_un_ok hw.1)).1 (t_F_nc f hw.2 (by decide))
theorem s_S3.fr (h : s_S3 gi L) (f : t_F w1 gi gl gr g1 l1 r1) (hw : t_rg3 w1 = true) : s_S3 g1 L := by
  unfold t_rg3 at hw
  simp only [Bool.and_eq_true] at hw
  exact h.cg (f 69 30 (by decide) (t_un_ok hw.1)).1 (t_F_nc f hw.2.1 (by decide)) (t_F_nc f hw.2.2.1 (by decide)) (t_F_nc f hw.2.2.2 (by decide))
theorem t_RG_fr (hG : t_RG gi) (f1 : t_F w1 gi gl gr g1 l1 r1) (h : (t_rg1 w1 && t_rg3 w1) = true) : t_RG g1 := by
  obtain ⟨L, a, b, c⟩ := hG
  rw [Bool.and_eq_true] at h
  exact ⟨L, a.fr f1 h.1, b.fr f1 h.2, c⟩
theorem t_RG_same (hG : t_RG gi) (f1 : t_F w1 gi gl gr g1 l1 r1) (f2 : t_F w2 g1 l1 r1 g2 l2 r2) (h : ((t_rg1 w1 && t_rg3 w1) && (t_rg1 w2 && t_rg3 w2)) = true) : t_RG g2 := by
  rw [Bool.and_eq_true] at h
  exact t_RG_fr (t_RG_fr hG f1 h.1) f2 h.2
theorem t_RG_read (hG : t_RG gi) (hD : t_DR sh.length gi gl gr) (f1 : t_F w1 gi gl gr g1 l1 r1) (f2 : t_F w2 g1 l1 r1 g2 l2 r2) (h70 : t_nc w1 70 = true) (h3 : t_rg3 w1 = true) (h1 : t_rg1 w2 = true) (q1 : Q_d_readings gi gl gr Y x1 g1 l1 r1) (q2 : Q_e_readings g1 l1 r1 Y x2 g2 l2 r2) : t_RG g2 := by
  obtain ⟨u, hu, D, hb, hv, hl, hc, hm⟩ := hD.1
  have r70 : g1 70 = gi 70 := t_F_nc f1 h70 (by decide)
  have hm2 : t_ME 0 g1 D := by unfold t_ME; rw [r70]; exact hm
  have k1 := q1 u D hu hl hc hb hv.1
  have k2 := q2 D hm2 hb
  by_cases hy : 1 ≤ Y.toInt
  · exact ⟨_, (k1.1 hy).1.fr f2 h1, (k2.1 hy).1, s_rL_O hb.1.2⟩
  · obtain ⟨L, a, b, c⟩ := hG
    exact ⟨L, ((k1.2 (by omega)).2 L a).fr f2 h1, (k2.2 (by omega)).2 L (b.fr f1 h3), c⟩
theorem t_L_readings (hD : t_DR sh.length gi gl gr) (f1 : t_F w1 gi gl gr g1 l1 r1) (h70 : t_nc w1 70 = true) (q1 : Q_d_readings gi gl gr Y x1 g1 l1 r1) (q2 : Q_e_readings g1 l1 r1 Y x2 g2 l2 r2) : x1 = x2 := by
  obtain ⟨u, hu, D, hb, hv, hl, hc, hm⟩ := hD.1
  have r70 : g1 70 = gi 70 := t_F_nc f1 h70 (by decide)
  have hm2 : t_ME 0 g1 D := by unfold t_ME; rw [r70]; exact hm
  have k1 := q1 u D hu hl hc hb hv.1
  have k2 := q2 D hm2 hb
  apply Int32.toInt_inj.mp
  by_cases hy : 1 ≤ Y.toInt
  · rw [(k1.1 hy).2, (k2.1 hy).2]
  · rw [(k1.2 (by omega)).1, (k2.2 (by omega)).1]
theorem t_L_reading (hG : t_RG gi) (f1 : t_F w1 gi gl gr g1 l1 r1) (h3 : t_rg3 w1 = true) (q1 : Q_d_reading gi gl gr A A2 x1 g1 l1 r1) (q2 : Q_e_reading g1 l1 r1 A A2 x2 g2 l2 r2) : x1 = x2 := by
  obtain ⟨L, a, b, c⟩ := hG
  have k1 := q1 L a c
  have k2 := q2 L (b.fr f1 h3) c
  apply Int32.toInt_inj.mp
  by_cases hin : 0 ≤ A.toInt ∧ A.toInt < (L.length : Int) ∧ 0 ≤ A2.toInt ∧ A2.toInt ≤ 2
  · rw [k1.1 hin, k2.1 hin]
  · rw [k1.2 hin, k2.2 hin]
end RGS
theorem W1_N {sh : List (Nat ⊕ (Nat × Nat))} {gi : Nat → Nat → Int32} {gl : Nat → Nat → Int64} {gr : Nat → Nat → Value} (hR : x_R W1 (sh, gi, gl, gr)) : t_RG gi := by
  have h : gi 69 30 = x_cI w1_c69 30 := ((x_gc_R hR (c := w1_c69) rfl).2.2.2 _ (by decide)).1
  have h0 : gi 0 14 = x_cI w1_c0 14 := ((x_gc_R hR (c := w1_c0) rfl).2.2.2 _ (by decide)).1
  refine ⟨[], s_S1_nil ?_, ⟨?_, fun k t hk => absurd hk (by intro h2; cases h2)⟩, s_LO_n⟩
  · rw [h0]; decide +kernel
  · rw [h]; decide +kernel
