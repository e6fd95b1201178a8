/-! ===== printed by riv.py: READINGS: the other side ===== -/
noncomputable def wl_n_reads : List (Nat × Nat) := [(69, 29), (78, 9999), (79, 9999), (80, 9999)]
noncomputable def Q_n_reads (gi : Nat → Nat → Int32) (gl : Nat → Nat → Int64) (gr : Nat → Nat → Value) (ar1 : Int32) (ar2 : Int32) (ar3 : Int32) : (Nat → Nat → Int32) → (Nat → Nat → Int64) → (Nat → Nat → Value) → Prop := fun (gi2 : Nat → Nat → Int32) (gl2 : Nat → Nat → Int64) (gr2 : Nat → Nat → Value) => (gi2 69 29).toInt = (gi 69 29).toInt + 1 ∧ (∀ (L : s_RL) (t : Int × Int × Int), s_S2 gi L → ar1.toInt = t.1 → ar2.toInt = t.2.1 → ar3.toInt = t.2.2 → s_S2 gi2 (L ++ [t]))
theorem c_n_reads {X : x_Ext} {d : Nat} {sh : List (Nat ⊕ (Nat × Nat))} {gi : Nat → Nat → Int32} {gl : Nat → Nat → Int64} {gr : Nat → Nat → Value} (hI : t_I sh gi gr) (ar1 : Int32) (ar2 : Int32) (ar3 : Int32) (e_p0 : (gi 69 29).toInt ≤ 499) : x_Me X (d + 1) n_X12_reads [.ref 69, .int ar1, .int ar2, .int ar3] (sh, gi, gl, gr) (t_PN wl_n_reads sh gi gl gr (Q_n_reads gi gl gr ar1 ar2 ar3)) := by
  have hX : t_X wl_n_reads sh gi gl gr gi gl gr := t_X.rf
  refine me_i f_X12_reads (hI.wf.s rfl) rfl rfl rfl ?_
  obtain ⟨l1, u1⟩ := hI.b (hI.wf.s (k := 69) rfl) (t_bdK rfl : t_bd 11 29 = some (0, 500))
  refine ev_loc f_X12_reads (nx := 1) rfl rfl rfl rfl ?_
  refine ev_getR f_X12_reads (nx := 4) rfl (hI.wf.s rfl) rfl rfl (hI.wf.r rfl) rfl rfl ?_
  refine ev_loc f_X12_reads (nx := 5) rfl rfl rfl rfl ?_
  refine ev_gvI f_X12_reads (nx := 8) (w := (gi 69 29)) rfl (hI.wf.s rfl) rfl rfl rfl rfl ?_
  refine ev_loc f_X12_reads (nx := 9) rfl rfl rfl rfl ?_
  have u3 : (gi 69 29).toInt ≤ (499:Int) := (by omega)
  refine ev_iastT f_X12_reads (nx := 10) rfl (hI.wf.s rfl) l1 (by decide) u3 (by decide) rfl (hI.astG (hI.wf.s rfl) (fun lo hi e => absurd e (t_nob (by decide +kernel) _)) (fun k hk e => by have := hk.2.1; omega)) (hX.upI (t_inA_ok rfl)) (fun g2 e2 hI hX => ?_)
  refine ev_loc f_X12_reads (nx := 11) rfl rfl rfl rfl ?_
  refine ev_getR f_X12_reads (nx := 14) rfl (hI.wf.s rfl) rfl rfl (hI.wf.r rfl) rfl rfl ?_
  refine ev_loc f_X12_reads (nx := 15) rfl rfl rfl rfl ?_
  refine ev_gvI f_X12_reads (nx := 18) (w := (gi 69 29)) rfl (hI.wf.s rfl) rfl rfl ((by rw [e2]; exact x_up2_off (Or.inl (by decide)) : g2 69 29 = gi 69 29).trans rfl) rfl ?_
  refine ev_loc f_X12_reads (nx := 19) rfl rfl rfl rfl ?_
  refine ev_iastT f_X12_reads (nx := 20) rfl (hI.wf.s rfl) l1 (by decide) u3 (by decide) rfl (hI.astG (hI.wf.s rfl) (fun lo hi e => absurd e (t_nob (by decide +kernel) _)) (fun k hk e => by have := hk.2.1; omega)) (hX.upI (t_inA_ok rfl)) (fun g4 e4 hI hX => ?_)
  refine ev_loc f_X12_reads (nx := 21) rfl rfl rfl rfl ?_
  refine ev_getR f_X12_reads (nx := 24) rfl (hI.wf.s rfl) rfl rfl (hI.wf.r rfl) rfl rfl ?_
  refine ev_loc f_X12_reads (nx := 25) rfl rfl rfl rfl ?_
  refine ev_gvI f_X12_reads (nx := 28) (w := (gi 69 29)) rfl (hI.wf.s rfl) rfl rfl ((by rw [e4]; exact x_up2_off (Or.inl (by decide)) : g4 69 29 = g2 69 29).trans ((by rw [e2]; exact x_up2_off (Or.inl (by decide)) : g2 69 29 = gi 69 29).trans rfl)) rfl ?_
  refine ev_loc f_X12_reads (nx := 29) rfl rfl rfl rfl ?_
  refine ev_iastT f_X12_reads (nx := 30) rfl (hI.wf.s rfl) l1 (by decide) u3 (by decide) rfl (hI.astG (hI.wf.s rfl) (fun lo hi e => absurd e (t_nob (by decide +kernel) _)) (fun k hk e => by have := hk.2.1; omega)) (hX.upI (t_inA_ok rfl)) (fun g5 e5 hI hX => ?_)
  refine ev_loc f_X12_reads (nx := 31) rfl rfl rfl rfl ?_
  refine ev_alu f_X12_reads (nx := 32) rfl rfl rfl rfl ?_
  refine ev_gvI f_X12_reads (nx := 35) (w := (gi 69 29)) rfl (hI.wf.s rfl) rfl rfl ((by rw [e5]; exact x_up2_off (Or.inl (by decide)) : g5 69 29 = g4 69 29).trans ((by rw [e4]; exact x_up2_off (Or.inl (by decide)) : g4 69 29 = g2 69 29).trans ((by rw [e2]; exact x_up2_off (Or.inl (by decide)) : g2 69 29 = gi 69 29).trans rfl))) rfl ?_
  refine ev_ic f_X12_reads (nx := 36) (v := 1) rfl (by decide) rfl ?_
  refine ev_addC f_X12_reads (nx := 37) (c := 1) (l := 1) (u := 500) rfl (by decide) l1 u3 rfl rfl (by decide) (by decide) rfl (fun z6 e6 l6 u6 => ?_)
  refine ev_putIT f_X12_reads (nx := 40) rfl (hI.wf.s rfl) rfl rfl rfl (hI.putB (hI.wf.s rfl) rfl rfl l6 (by decide) u6 (by decide)) (hX.upI rfl) (fun g7 e7 hI hX => ?_)
  exact ev_ret f_X12_reads rfl rfl rfl ⟨_, _, _, rfl, hI, hX, ⟨rfl, (show (g7 69 29).toInt = (gi 69 29).toInt + 1 ∧ (∀ (L : s_RL) (t : Int × Int × Int), s_S2 gi L → ar1.toInt = t.1 → ar2.toInt = t.2.1 → ar3.toInt = t.2.2 → s_S2 g7 (L ++ [t])) from (by
                                                            refine ⟨by have ff8 : (g7 69 29).toInt = z6.toInt := congrArg Int32.toInt (by rw [e7]; exact x_up2_at _ _ _ _ : g7 69 29 = z6); omega, ?_⟩
                                                            intro L t h h1 h2 h3
                                                            exact s_S2_add h e2 e4 e5 e7 rfl (by omega) h1 h2 h3))⟩⟩
noncomputable def wl_l_findsReadings : List (Nat × Nat) := [(69, 29), (78, 9999), (79, 9999), (80, 9999)]
noncomputable def Q_l_findsReadings (gi : Nat → Nat → Int32) (gl : Nat → Nat → Int64) (gr : Nat → Nat → Value) (ar1 : Int64) : (Nat → Nat → Int32) → (Nat → Nat → Int64) → (Nat → Nat → Value) → Prop := fun (gi2 : Nat → Nat → Int32) (gl2 : Nat → Nat → Int64) (gr2 : Nat → Nat → Value) => (gi2 69 29).toInt ≤ 474 ∧ (∀ j, gi2 70 j = gi 70 j) ∧ (∀ D : s_D, t_ME 0 gi D → t_Cb D → s_S2 gi2 (s_rL D ar1))
theorem c_l_findsReadings {X : x_Ext} {d : Nat} {sh : List (Nat ⊕ (Nat × Nat))} {gi : Nat → Nat → Int32} {gl : Nat → Nat → Int64} {gr : Nat → Nat → Value} (hI : t_I sh gi gr) (ar1 : Int64) : x_Me X (d + 4) n_X12_findsReadings [.ref 69, .long ar1] (sh, gi, gl, gr) (t_PN wl_l_findsReadings sh gi gl gr (Q_l_findsReadings gi gl gr ar1)) := by
  have hX : t_X wl_l_findsReadings sh gi gl gr gi gl gr := t_X.rf
  refine me_i f_X12_findsReadings (hI.wf.s rfl) rfl rfl rfl ?_
  obtain ⟨l1, u1⟩ := hI.b (hI.wf.s (k := 69) rfl) (t_bdK rfl : t_bd 11 29 = some (0, 500))
  refine ev_loc f_X12_findsReadings (nx := 1) rfl rfl rfl rfl ?_
  refine ev_ic f_X12_findsReadings (nx := 2) (v := 0) rfl (by decide) rfl ?_
  refine ev_putIT f_X12_findsReadings (nx := 5) rfl (hI.wf.s rfl) rfl rfl rfl (hI.putB (hI.wf.s rfl) rfl rfl (by decide : (0:Int) ≤ (0:Int32).toInt) (by decide) (by decide : (0:Int32).toInt ≤ (0:Int)) (by decide)) (hX.upI rfl) (fun g2 e2 hI hX => ?_)
  refine ev_loc f_X12_findsReadings (nx := 6) rfl rfl rfl rfl ?_
  refine ev_getR f_X12_findsReadings (nx := 9) rfl (hI.wf.s rfl) rfl rfl (hI.wf.r rfl) rfl rfl ?_
  refine ev_ic f_X12_findsReadings (nx := 10) (v := 0) rfl (by decide) rfl ?_
  obtain ⟨l3, u3⟩ := hI.ab (by decide +kernel : t_abr 70 0 0 0 6 = true) (Nat.le_refl _) (Nat.le_refl _)
  refine ev_ialdv f_X12_findsReadings (nx := 11) (w := (g2 70 0)) rfl (hI.wf.s rfl) (by decide) (rfl : (0 : Int32).toNatClampNeg = 0) (by decide) rfl rfl ?_
  refine ev_loc f_X12_findsReadings (nx := 12) (lo' := [(3, .int (g2 70 0)), (0, .ref 69), (1, .long ar1)]) rfl rfl rfl rfl ?_
  refine ev_ic f_X12_findsReadings (nx := 13) (v := 0) rfl (by decide) rfl ?_
  refine ev_loc f_X12_findsReadings (nx := 15) (lo' := [(4, .int 0), (3, .int (g2 70 0)), (0, .ref 69), (1, .long ar1)]) rfl rfl rfl rfl ?_
  have L4 : ∀ (m4 : Nat) (gi4 : Nat → Nat → Int32) (gl4 : Nat → Nat → Int64) (gr4 : Nat → Nat → Value) (y4_4 : Int32), t_I sh gi4 gr4 → t_X wl_l_findsReadings sh gi gl gr gi4 gl4 gr4 → 0 ≤ y4_4.toInt → y4_4.toInt ≤ 6 → gi4 70 0 = (g2 70 0) → (gi4 69 29).toInt ≤ y4_4.toInt → (∀ j, gi4 70 j = gi 70 j) → (∀ D : s_D, t_ME 0 gi D → t_Cb D → s_RI (s_S2 gi4) (s_R1 D ar1 y4_4.toInt) (s_rL D ar1) ∧ (g2 70 0).toInt = D 0) → (6 - y4_4.toInt).toNat = m4 → x_Ev X (d + 4) n_X12_findsReadings 15 [(4, .int y4_4), (3, .int (g2 70 0)), (0, .ref 69), (1, .long ar1)] [] (sh, gi4, gl4, gr4) (t_PN wl_l_findsReadings sh gi gl gr (Q_l_findsReadings gi gl gr ar1)) := by
    intro m4
    induction m4 using Nat.strongRecOn with
    | _ m4 ih4 =>
    intro gi4 gl4 gr4 y4_4 hI hX l4_4 u4_4 c4_0 j4_0 j4_1 j4_2 hm4
    obtain ⟨l5, u5⟩ := hI.b (hI.wf.s (k := 69) rfl) (t_bdK rfl : t_bd 11 29 = some (0, 500))
    refine ev_loc f_X12_findsReadings (nx := 17) rfl rfl rfl rfl ?_
    refine ev_loc f_X12_findsReadings (nx := 18) rfl rfl rfl rfl ?_
    refine ev_if f_X12_findsReadings (t1 := 46) (t2 := 21) rfl rfl rfl (fun h6 => ?_) (fun h6 => ?_)
    · have r7 : (g2 70 0).toInt ≤ y4_4.toInt := Int32.le_iff_toInt_le.mp h6
      refine ev_ic f_X12_findsReadings (nx := 47) (v := 0) rfl (by decide) rfl ?_
      refine ev_loc f_X12_findsReadings (nx := 49) (lo' := [(4, .int 0), (3, .int (g2 70 0)), (0, .ref 69), (1, .long ar1)]) rfl rfl rfl rfl ?_
      have L8 : ∀ (m8 : Nat) (gi8 : Nat → Nat → Int32) (gl8 : Nat → Nat → Int64) (gr8 : Nat → Nat → Value) (y8_4 : Int32), t_I sh gi8 gr8 → t_X wl_l_findsReadings sh gi gl gr gi8 gl8 gr8 → 0 ≤ y8_4.toInt → y8_4.toInt ≤ 6 → gi8 70 0 = (g2 70 0) → (gi8 69 29).toInt ≤ 6 + 78 * y8_4.toInt → (∀ j, gi8 70 j = gi 70 j) → (∀ D : s_D, t_ME 0 gi D → t_Cb D → s_RI (s_S2 gi8) (s_R2 D ar1 y8_4.toInt) (s_rL D ar1) ∧ (g2 70 0).toInt = D 0) → (6 - y8_4.toInt).toNat = m8 → x_Ev X (d + 4) n_X12_findsReadings 49 [(4, .int y8_4), (3, .int (g2 70 0)), (0, .ref 69), (1, .long ar1)] [] (sh, gi8, gl8, gr8) (t_PN wl_l_findsReadings sh gi gl gr (Q_l_findsReadings gi gl gr ar1)) := by
        intro m8
        induction m8 using Nat.strongRecOn with
        | _ m8 ih8 =>
        intro gi8 gl8 gr8 y8_4 hI hX l8_4 u8_4 c8_0 j8_0 j8_1 j8_2 hm8
        obtain ⟨l9, u9⟩ := hI.b (hI.wf.s (k := 69) rfl) (t_bdK rfl : t_bd 11 29 = some (0, 500))
        refine ev_loc f_X12_findsReadings (nx := 51) rfl rfl rfl rfl ?_
        refine ev_loc f_X12_findsReadings (nx := 52) rfl rfl rfl rfl ?_
        refine ev_if f_X12_findsReadings (t1 := 134) (t2 := 55) rfl rfl rfl (fun h10 => ?_) (fun h10 => ?_)
        · have r11 : (g2 70 0).toInt ≤ y8_4.toInt := Int32.le_iff_toInt_le.mp h10
          exact ev_ret f_X12_findsReadings rfl rfl rfl ⟨_, _, _, rfl, hI, hX, ⟨rfl, (show (gi8 69 29).toInt ≤ 474 ∧ (∀ j, gi8 70 j = gi 70 j) ∧ (∀ D : s_D, t_ME 0 gi D → t_Cb D → s_S2 gi8 (s_rL D ar1)) from ⟨(by omega), j8_1, (by
                                                            intro D hm hb
                                                            obtain ⟨g1, hn⟩ := j8_2 D hm hb
                                                            exact g1.fin (s_R2_e (by omega)))⟩)⟩⟩
        · have r12 : y8_4.toInt < (g2 70 0).toInt := Int32.lt_iff_toInt_lt.mp (t_nle h10)
          have u13 : y8_4.toInt ≤ 5 := t_ltu (t_nle h10) u3 rfl
          have l14 : 1 ≤ (g2 70 0).toInt := t_ltl (t_nle h10) l8_4 rfl
          refine ev_ic f_X12_findsReadings (nx := 56) (v := 0) rfl (by decide) rfl ?_
          refine ev_loc f_X12_findsReadings (nx := 58) (lo' := [(5, .int 0), (4, .int y8_4), (3, .int (g2 70 0)), (0, .ref 69), (1, .long ar1)]) rfl rfl rfl rfl ?_
          have L15 : ∀ (m15 : Nat) (gi15 : Nat → Nat → Int32) (gl15 : Nat → Nat → Int64) (gr15 : Nat → Nat → Value) (y15_5 : Int32), t_I sh gi15 gr15 → t_X wl_l_findsReadings sh gi gl gr gi15 gl15 gr15 → 0 ≤ y15_5.toInt → y15_5.toInt ≤ 6 → gi15 70 0 = (g2 70 0) → (gi15 69 29).toInt ≤ 6 + 78 * y8_4.toInt + 13 * y15_5.toInt → (∀ j, gi15 70 j = gi 70 j) → (∀ D : s_D, t_ME 0 gi D → t_Cb D → s_RI (s_S2 gi15) (s_R3 D ar1 y8_4.toInt y15_5.toInt) (s_rL D ar1) ∧ (g2 70 0).toInt = D 0 ∧ y8_4.toInt < D 0) → (6 - y15_5.toInt).toNat = m15 → x_Ev X (d + 4) n_X12_findsReadings 58 [(5, .int y15_5), (4, .int y8_4), (3, .int (g2 70 0)), (0, .ref 69), (1, .long ar1)] [] (sh, gi15, gl15, gr15) (t_PN wl_l_findsReadings sh gi gl gr (Q_l_findsReadings gi gl gr ar1)) := by
            intro m15
            induction m15 using Nat.strongRecOn with
            | _ m15 ih15 =>
            intro gi15 gl15 gr15 y15_5 hI hX l15_5 u15_5 c15_0 j15_0 j15_1 j15_2 hm15
            obtain ⟨l16, u16⟩ := hI.b (hI.wf.s (k := 69) rfl) (t_bdK rfl : t_bd 11 29 = some (0, 500))
            refine ev_loc f_X12_findsReadings (nx := 60) rfl rfl rfl rfl ?_
            refine ev_loc f_X12_findsReadings (nx := 61) rfl rfl rfl rfl ?_
            refine ev_if f_X12_findsReadings (t1 := 128) (t2 := 64) rfl rfl rfl (fun h17 => ?_) (fun h17 => ?_)
            · have r18 : (g2 70 0).toInt ≤ y15_5.toInt := Int32.le_iff_toInt_le.mp h17
              have l19 : 1 ≤ y15_5.toInt := t_lel h17 l14
              refine ev_incR f_X12_findsReadings (nx := 131) (c := 1) (l := 1) (u := 6) rfl rfl (by decide) (by decide) l8_4 u13 rfl rfl (by decide) (by decide) rfl (fun z20 e20 l20 u20 => ?_)
              refine ev_jmp f_X12_findsReadings (nx := 49) rfl rfl rfl ?_
              refine ev_sub (lo := [(4, .int z20), (3, .int (g2 70 0)), (0, .ref 69), (1, .long ar1)]) rfl (t_sc rfl (t_sc rfl (t_sc rfl (t_sc rfl t_sn)))) ?_
              exact ih8 _ (by omega) gi15 gl15 gr15 (z20) hI hX  (Int.le_trans (by decide : (0:Int) ≤ 1) l20) u20 c15_0 (by omega) j15_1 (by
                                                            intro D hm hb
                                                            obtain ⟨g1, hn, g2⟩ := j15_2 D hm hb
                                                            exact ⟨g1.cg ((s_R3_e (by omega)).trans (by rw [show z20.toInt = y8_4.toInt + 1 by omega])), hn⟩) rfl
            · have r21 : y15_5.toInt < (g2 70 0).toInt := Int32.lt_iff_toInt_lt.mp (t_nle h17)
              have u22 : y15_5.toInt ≤ 5 := t_ltu (t_nle h17) u3 rfl
              refine ev_loc f_X12_findsReadings (nx := 66) rfl rfl rfl rfl ?_
              refine ev_loc f_X12_findsReadings (nx := 68) rfl rfl rfl rfl ?_
              refine ev_if f_X12_findsReadings (t1 := 75) (t2 := 71) rfl rfl rfl (fun h23 => ?_) (fun h23 => ?_)
              · have r24 : y8_4.toInt ≤ y15_5.toInt := Int32.le_iff_toInt_le.mp h23
                refine ev_ic f_X12_findsReadings (nx := 76) (v := 0) rfl (by decide) rfl ?_
                refine ev_loc f_X12_findsReadings (nx := 78) (lo' := [(6, .int 0), (5, .int y15_5), (4, .int y8_4), (3, .int (g2 70 0)), (0, .ref 69), (1, .long ar1)]) rfl rfl rfl rfl ?_
                have L25 : ∀ (m25 : Nat) (gi25 : Nat → Nat → Int32) (gl25 : Nat → Nat → Int64) (gr25 : Nat → Nat → Value) (y25_6 : Int32), t_I sh gi25 gr25 → t_X wl_l_findsReadings sh gi gl gr gi25 gl25 gr25 → 0 ≤ y25_6.toInt → y25_6.toInt ≤ 13 → gi25 70 0 = (g2 70 0) → (gi25 69 29).toInt ≤ 6 + 78 * y8_4.toInt + 13 * y15_5.toInt + y25_6.toInt → (∀ j, gi25 70 j = gi 70 j) → (∀ D : s_D, t_ME 0 gi D → t_Cb D → s_RI (s_S2 gi25) (s_R4 D ar1 y8_4.toInt y15_5.toInt y25_6.toInt) (s_rL D ar1) ∧ (g2 70 0).toInt = D 0 ∧ y8_4.toInt < D 0 ∧ y15_5.toInt < D 0) → (13 - y25_6.toInt).toNat = m25 → x_Ev X (d + 4) n_X12_findsReadings 78 [(6, .int y25_6), (5, .int y15_5), (4, .int y8_4), (3, .int (g2 70 0)), (0, .ref 69), (1, .long ar1)] [] (sh, gi25, gl25, gr25) (t_PN wl_l_findsReadings sh gi gl gr (Q_l_findsReadings gi gl gr ar1)) := by
                  intro m25
                  induction m25 using Nat.strongRecOn with
                  | _ m25 ih25 =>
                  intro gi25 gl25 gr25 y25_6 hI hX l25_6 u25_6 c25_0 j25_0 j25_1 j25_2 hm25
                  obtain ⟨l26, u26⟩ := hI.b (hI.wf.s (k := 69) rfl) (t_bdK rfl : t_bd 11 29 = some (0, 500))
                  refine ev_loc f_X12_findsReadings (nx := 80) rfl rfl rfl rfl ?_
                  refine ev_bp f_X12_findsReadings (nx := 82) (v := 12) rfl (by decide) rfl ?_
                  refine ev_if f_X12_findsReadings (t1 := 122) (t2 := 85) rfl rfl rfl (fun h27 => ?_) (fun h27 => ?_)
                  · have l28 : 13 ≤ y25_6.toInt := t_ltl h27 (by decide : (12:Int) ≤ (12:Int32).toInt) rfl
                    refine ev_incR f_X12_findsReadings (nx := 125) (c := 1) (l := 1) (u := 6) rfl rfl (by decide) (by decide) l15_5 u22 rfl rfl (by decide) (by decide) rfl (fun z29 e29 l29 u29 => ?_)
                    refine ev_jmp f_X12_findsReadings (nx := 58) rfl rfl rfl ?_
                    refine ev_sub (lo := [(5, .int z29), (4, .int y8_4), (3, .int (g2 70 0)), (0, .ref 69), (1, .long ar1)]) rfl (t_sc rfl (t_sc rfl (t_sc rfl (t_sc rfl (t_sc rfl t_sn))))) ?_
                    exact ih15 _ (by omega) gi25 gl25 gr25 (z29) hI hX  (Int.le_trans (by decide : (0:Int) ≤ 1) l29) u29 c25_0 (by omega) j25_1 (by
                                                            intro D hm hb
                                                            obtain ⟨g1, hn, g2, g3⟩ := j25_2 D hm hb
                                                            exact ⟨g1.cg ((s_R4_e (by omega)).trans (by rw [show z29.toInt = y15_5.toInt + 1 by omega])), hn, by omega⟩) rfl
                  · have u30 : y25_6.toInt ≤ 12 := t_leu (t_nlt h27) (by decide : (12:Int32).toInt ≤ (12:Int))
                    refine ev_loc f_X12_findsReadings (nx := 86) rfl rfl rfl rfl ?_
                    refine ev_loc f_X12_findsReadings (nx := 88) rfl rfl rfl rfl ?_
                    refine ev_qL0 f_X12_findsReadings (nx := 91) (r := []) rfl rfl rfl rfl rfl rfl rfl (c_n_heardOf hI (y8_4) l8_4 u13) rfl (fun w31 q31 => ?_)
                    have q31 : (0 ≤ w31.toInt ∧ w31.toInt < 8589934592) ∧ ∀ D : s_D, t_ME 0 gi25 D → y8_4.toInt < D 0 → w31 = s_ec (s_so D y8_4.toNatClampNeg) (D 7) := q31
                    refine ev_loc f_X12_findsReadings (nx := 92) rfl rfl rfl rfl ?_
                    refine ev_loc f_X12_findsReadings (nx := 94) rfl rfl rfl rfl ?_
                    refine ev_qL0 f_X12_findsReadings (nx := 97) (r := [.long w31]) rfl rfl rfl rfl rfl rfl rfl (c_n_heardOf hI (y15_5) l15_5 u22) rfl (fun w32 q32 => ?_)
                    have q32 : (0 ≤ w32.toInt ∧ w32.toInt < 8589934592) ∧ ∀ D : s_D, t_ME 0 gi25 D → y15_5.toInt < D 0 → w32 = s_ec (s_so D y15_5.toNatClampNeg) (D 7) := q32
                    refine ev_loc f_X12_findsReadings (nx := 99) rfl rfl rfl rfl ?_
                    refine ev_anyLE f_X12_findsReadings (nx := 100) rfl rfl rfl rfl (fun z33 e33 => ?_)
                    refine ev_anyLE f_X12_findsReadings (nx := 101) rfl rfl rfl rfl (fun z34 e34 => ?_)
                    refine ev_loc f_X12_findsReadings (nx := 102) rfl rfl rfl rfl ?_
                    refine ev_anyIE f_X12_findsReadings (nx := 103) rfl rfl rfl rfl (fun z35 e35 => ?_)
                    refine ev_if f_X12_findsReadings (t1 := 106) (t2 := 116) rfl rfl rfl (fun h36 => ?_) (fun h36 => ?_)
                    · have u37 : z35.toInt ≤ 0 := t_equ h36 (by decide : (0:Int32).toInt ≤ (0:Int))
                      have l38 : 0 ≤ z35.toInt := t_eql h36 (by decide : (0:Int) ≤ (0:Int32).toInt)
                      refine ev_loc f_X12_findsReadings (nx := 107) rfl rfl rfl rfl ?_
                      refine ev_loc f_X12_findsReadings (nx := 109) rfl rfl rfl rfl ?_
                      refine ev_loc f_X12_findsReadings (nx := 111) rfl rfl rfl rfl ?_
                      refine ev_loc f_X12_findsReadings (nx := 113) rfl rfl rfl rfl ?_
                      refine ev_qN f_X12_findsReadings (nx := 116) (r := []) rfl rfl rfl rfl rfl rfl rfl (c_n_reads hI (y8_4) (y15_5) (y25_6) (by omega)) rfl hX rfl (fun gi39 gl39 gr39 hI hX hC39 q39 => ?_)
                      have q39 : (gi39 69 29).toInt = (gi25 69 29).toInt + 1 ∧ (∀ (L : s_RL) (t : Int × Int × Int), s_S2 gi25 L → y8_4.toInt = t.1 → y15_5.toInt = t.2.1 → y25_6.toInt = t.2.2 → s_S2 gi39 (L ++ [t])) := q39
                      obtain ⟨l40, u40⟩ := hI.b (hI.wf.s (k := 69) rfl) (t_bdK rfl : t_bd 11 29 = some (0, 500))
                      refine ev_incR f_X12_findsReadings (nx := 119) (c := 1) (l := 1) (u := 13) rfl rfl (by decide) (by decide) l25_6 u30 rfl rfl (by decide) (by decide) rfl (fun z41 e41 l41 u41 => ?_)
                      refine ev_jmp f_X12_findsReadings (nx := 78) rfl rfl rfl ?_
                      refine ev_sub (lo := [(6, .int z41), (5, .int y15_5), (4, .int y8_4), (3, .int (g2 70 0)), (0, .ref 69), (1, .long ar1)]) rfl (t_sc rfl (t_sc rfl (t_sc rfl (t_sc rfl (t_sc rfl (t_sc rfl t_sn)))))) ?_
                      exact ih25 _ (by omega) gi39 gl39 gr39 (z41) hI hX  (Int.le_trans (by decide : (0:Int) ≤ 1) l41) u41 ((hC39.1 70 0 rfl).1.trans c25_0) (by omega) (fun j => (congrFun ((funext (fun j => (hC39.1 70 j rfl).1) : gi39 70 = gi25 70)) j).trans (j25_1 j)) (by
                                                            intro D hm hb
                                                            obtain ⟨g1, hn, g2, g3⟩ := j25_2 D hm hb
                                                            have hmN : t_ME 0 gi25 D := hm.mv hb (fun j _ _ _ => j25_1 (0 + j))
                                                            have hw31 : w31 = s_hd D y8_4.toInt := (q31.2 D hmN (by omega)).trans ((s_hd_i (D := D) (p := y8_4.toInt) (by omega) (by omega)).trans (by rw [show y8_4.toInt.toNat = y8_4.toNatClampNeg from (by have := t_clamp (i := y8_4) (by omega); omega)])).symm
                                                            have hw32 : w32 = s_hd D y15_5.toInt := (q32.2 D hmN (by omega)).trans ((s_hd_i (D := D) (p := y15_5.toInt) (by omega) (by omega)).trans (by rw [show y15_5.toInt.toNat = y15_5.toNatClampNeg from (by have := t_clamp (i := y15_5) (by omega); omega)])).symm
                                                            have hv := s_bw_e hw31 hw32 e33 e34
                                                            have hne := (t_le0 e35 h36)
                                                            rw [hv] at hne
                                                            exact ⟨(g1.add (s_R4_y (by omega) hne) (fun L hL => q39.2 L _ hL rfl rfl rfl)).cg (by rw [show z41.toInt = y25_6.toInt + 1 by omega]), hn, g2, g3⟩) rfl
                    · have r42 : z35.toInt ≠ 0 := fun e => h36 (Int32.toInt_inj.mp (e.trans (by decide : (0:Int) = (0 : Int32).toInt)))
                      refine ev_incR f_X12_findsReadings (nx := 119) (c := 1) (l := 1) (u := 13) rfl rfl (by decide) (by decide) l25_6 u30 rfl rfl (by decide) (by decide) rfl (fun z43 e43 l43 u43 => ?_)
                      refine ev_jmp f_X12_findsReadings (nx := 78) rfl rfl rfl ?_
                      refine ev_sub (lo := [(6, .int z43), (5, .int y15_5), (4, .int y8_4), (3, .int (g2 70 0)), (0, .ref 69), (1, .long ar1)]) rfl (t_sc rfl (t_sc rfl (t_sc rfl (t_sc rfl (t_sc rfl (t_sc rfl t_sn)))))) ?_
                      exact ih25 _ (by omega) gi25 gl25 gr25 (z43) hI hX  (Int.le_trans (by decide : (0:Int) ≤ 1) l43) u43 c25_0 (by omega) j25_1 (by
                                                            intro D hm hb
                                                            obtain ⟨g1, hn, g2, g3⟩ := j25_2 D hm hb
                                                            have hmN : t_ME 0 gi25 D := hm.mv hb (fun j _ _ _ => j25_1 (0 + j))
                                                            have hw31 : w31 = s_hd D y8_4.toInt := (q31.2 D hmN (by omega)).trans ((s_hd_i (D := D) (p := y8_4.toInt) (by omega) (by omega)).trans (by rw [show y8_4.toInt.toNat = y8_4.toNatClampNeg from (by have := t_clamp (i := y8_4) (by omega); omega)])).symm
                                                            have hw32 : w32 = s_hd D y15_5.toInt := (q32.2 D hmN (by omega)).trans ((s_hd_i (D := D) (p := y15_5.toInt) (by omega) (by omega)).trans (by rw [show y15_5.toInt.toNat = y15_5.toNatClampNeg from (by have := t_clamp (i := y15_5) (by omega); omega)])).symm
                                                            have hv := s_bw_e hw31 hw32 e33 e34
                                                            have hne := (t_le1 e35 h36)
                                                            rw [hv] at hne
                                                            exact ⟨g1.cg ((s_R4_n (by omega) hne).trans (by rw [show z43.toInt = y25_6.toInt + 1 by omega])), hn, g2, g3⟩) rfl
                refine ev_sub (lo := [(6, .int 0), (5, .int y15_5), (4, .int y8_4), (3, .int (g2 70 0)), (0, .ref 69), (1, .long ar1)]) rfl (t_sc rfl (t_sc rfl (t_sc rfl (t_sc rfl (t_sc rfl (t_sc rfl t_sn)))))) ?_
                exact L25 _ gi15 gl15 gr15 (0) hI hX  (by decide : (0:Int) ≤ (0:Int32).toInt) (Int.le_trans (by decide : (0:Int32).toInt ≤ (0:Int)) (by decide : (0:Int) ≤ 13)) c15_0 (by have kf44 : (0 : Int32).toInt = 0 := (by decide); omega) j15_1 (by
                                                            intro D hm hb
                                                            obtain ⟨g1, hn, g2⟩ := j15_2 D hm hb
                                                            have hl2 : s_lb y8_4.toInt y15_5.toInt = (0 : Int32).toInt := s_lb_0 (by omega)
                                                            exact ⟨g1.cg ((s_R3_s (by omega)).trans (by rw [hl2])), hn, g2, by omega⟩) rfl
              · have r45 : y15_5.toInt < y8_4.toInt := Int32.lt_iff_toInt_lt.mp (t_nle h23)
                have u46 : y15_5.toInt ≤ 4 := t_ltu (t_nle h23) u13 rfl
                have l47 : 1 ≤ y8_4.toInt := t_ltl (t_nle h23) l15_5 rfl
                refine ev_ic f_X12_findsReadings (nx := 72) (v := 1) rfl (by decide) rfl ?_
                refine ev_jmp f_X12_findsReadings (nx := 76) rfl rfl rfl ?_
                refine ev_loc f_X12_findsReadings (nx := 78) (lo' := [(6, .int 1), (5, .int y15_5), (4, .int y8_4), (3, .int (g2 70 0)), (0, .ref 69), (1, .long ar1)]) rfl rfl rfl rfl ?_
                have L48 : ∀ (m48 : Nat) (gi48 : Nat → Nat → Int32) (gl48 : Nat → Nat → Int64) (gr48 : Nat → Nat → Value) (y48_6 : Int32), t_I sh gi48 gr48 → t_X wl_l_findsReadings sh gi gl gr gi48 gl48 gr48 → 0 ≤ y48_6.toInt → y48_6.toInt ≤ 13 → gi48 70 0 = (g2 70 0) → (gi48 69 29).toInt ≤ 6 + 78 * y8_4.toInt + 13 * y15_5.toInt + y48_6.toInt → (∀ j, gi48 70 j = gi 70 j) → (∀ D : s_D, t_ME 0 gi D → t_Cb D → s_RI (s_S2 gi48) (s_R4 D ar1 y8_4.toInt y15_5.toInt y48_6.toInt) (s_rL D ar1) ∧ (g2 70 0).toInt = D 0 ∧ y8_4.toInt < D 0 ∧ y15_5.toInt < D 0) → (13 - y48_6.toInt).toNat = m48 → x_Ev X (d + 4) n_X12_findsReadings 78 [(6, .int y48_6), (5, .int y15_5), (4, .int y8_4), (3, .int (g2 70 0)), (0, .ref 69), (1, .long ar1)] [] (sh, gi48, gl48, gr48) (t_PN wl_l_findsReadings sh gi gl gr (Q_l_findsReadings gi gl gr ar1)) := by
                  intro m48
                  induction m48 using Nat.strongRecOn with
                  | _ m48 ih48 =>
                  intro gi48 gl48 gr48 y48_6 hI hX l48_6 u48_6 c48_0 j48_0 j48_1 j48_2 hm48
                  obtain ⟨l49, u49⟩ := hI.b (hI.wf.s (k := 69) rfl) (t_bdK rfl : t_bd 11 29 = some (0, 500))
                  refine ev_loc f_X12_findsReadings (nx := 80) rfl rfl rfl rfl ?_
                  refine ev_bp f_X12_findsReadings (nx := 82) (v := 12) rfl (by decide) rfl ?_
                  refine ev_if f_X12_findsReadings (t1 := 122) (t2 := 85) rfl rfl rfl (fun h50 => ?_) (fun h50 => ?_)
                  · have l51 : 13 ≤ y48_6.toInt := t_ltl h50 (by decide : (12:Int) ≤ (12:Int32).toInt) rfl
                    refine ev_incR f_X12_findsReadings (nx := 125) (c := 1) (l := 1) (u := 5) rfl rfl (by decide) (by decide) l15_5 u46 rfl rfl (by decide) (by decide) rfl (fun z52 e52 l52 u52 => ?_)
                    refine ev_jmp f_X12_findsReadings (nx := 58) rfl rfl rfl ?_
                    refine ev_sub (lo := [(5, .int z52), (4, .int y8_4), (3, .int (g2 70 0)), (0, .ref 69), (1, .long ar1)]) rfl (t_sc rfl (t_sc rfl (t_sc rfl (t_sc rfl (t_sc rfl t_sn))))) ?_
                    exact ih15 _ (by omega) gi48 gl48 gr48 (z52) hI hX  (Int.le_trans (by decide : (0:Int) ≤ 1) l52) (Int.le_trans u52 (by decide : (5:Int) ≤ 6)) c48_0 (by omega) j48_1 (by
                                                            intro D hm hb
                                                            obtain ⟨g1, hn, g2, g3⟩ := j48_2 D hm hb
                                                            exact ⟨g1.cg ((s_R4_e (by omega)).trans (by rw [show z52.toInt = y15_5.toInt + 1 by omega])), hn, by omega⟩) rfl
                  · have u53 : y48_6.toInt ≤ 12 := t_leu (t_nlt h50) (by decide : (12:Int32).toInt ≤ (12:Int))
                    refine ev_loc f_X12_findsReadings (nx := 86) rfl rfl rfl rfl ?_
                    refine ev_loc f_X12_findsReadings (nx := 88) rfl rfl rfl rfl ?_
                    refine ev_qL0 f_X12_findsReadings (nx := 91) (r := []) rfl rfl rfl rfl rfl rfl rfl (c_n_heardOf hI (y8_4) (Int.le_trans (by decide : (0:Int) ≤ 1) l47) u13) rfl (fun w54 q54 => ?_)
                    have q54 : (0 ≤ w54.toInt ∧ w54.toInt < 8589934592) ∧ ∀ D : s_D, t_ME 0 gi48 D → y8_4.toInt < D 0 → w54 = s_ec (s_so D y8_4.toNatClampNeg) (D 7) := q54
                    refine ev_loc f_X12_findsReadings (nx := 92) rfl rfl rfl rfl ?_
                    refine ev_loc f_X12_findsReadings (nx := 94) rfl rfl rfl rfl ?_
                    refine ev_qL0 f_X12_findsReadings (nx := 97) (r := [.long w54]) rfl rfl rfl rfl rfl rfl rfl (c_n_heardOf hI (y15_5) l15_5 (Int.le_trans u46 (by decide : (4:Int) ≤ 5))) rfl (fun w55 q55 => ?_)
                    have q55 : (0 ≤ w55.toInt ∧ w55.toInt < 8589934592) ∧ ∀ D : s_D, t_ME 0 gi48 D → y15_5.toInt < D 0 → w55 = s_ec (s_so D y15_5.toNatClampNeg) (D 7) := q55
                    refine ev_loc f_X12_findsReadings (nx := 99) rfl rfl rfl rfl ?_
                    refine ev_anyLE f_X12_findsReadings (nx := 100) rfl rfl rfl rfl (fun z56 e56 => ?_)
                    refine ev_anyLE f_X12_findsReadings (nx := 101) rfl rfl rfl rfl (fun z57 e57 => ?_)
                    refine ev_loc f_X12_findsReadings (nx := 102) rfl rfl rfl rfl ?_
                    refine ev_anyIE f_X12_findsReadings (nx := 103) rfl rfl rfl rfl (fun z58 e58 => ?_)
                    refine ev_if f_X12_findsReadings (t1 := 106) (t2 := 116) rfl rfl rfl (fun h59 => ?_) (fun h59 => ?_)
                    · have u60 : z58.toInt ≤ 0 := t_equ h59 (by decide : (0:Int32).toInt ≤ (0:Int))
                      have l61 : 0 ≤ z58.toInt := t_eql h59 (by decide : (0:Int) ≤ (0:Int32).toInt)
                      refine ev_loc f_X12_findsReadings (nx := 107) rfl rfl rfl rfl ?_
                      refine ev_loc f_X12_findsReadings (nx := 109) rfl rfl rfl rfl ?_
                      refine ev_loc f_X12_findsReadings (nx := 111) rfl rfl rfl rfl ?_
                      refine ev_loc f_X12_findsReadings (nx := 113) rfl rfl rfl rfl ?_
                      refine ev_qN f_X12_findsReadings (nx := 116) (r := []) rfl rfl rfl rfl rfl rfl rfl (c_n_reads hI (y8_4) (y15_5) (y48_6) (by omega)) rfl hX rfl (fun gi62 gl62 gr62 hI hX hC62 q62 => ?_)
                      have q62 : (gi62 69 29).toInt = (gi48 69 29).toInt + 1 ∧ (∀ (L : s_RL) (t : Int × Int × Int), s_S2 gi48 L → y8_4.toInt = t.1 → y15_5.toInt = t.2.1 → y48_6.toInt = t.2.2 → s_S2 gi62 (L ++ [t])) := q62
                      obtain ⟨l63, u63⟩ := hI.b (hI.wf.s (k := 69) rfl) (t_bdK rfl : t_bd 11 29 = some (0, 500))
                      refine ev_incR f_X12_findsReadings (nx := 119) (c := 1) (l := 1) (u := 13) rfl rfl (by decide) (by decide) l48_6 u53 rfl rfl (by decide) (by decide) rfl (fun z64 e64 l64 u64 => ?_)
                      refine ev_jmp f_X12_findsReadings (nx := 78) rfl rfl rfl ?_
                      refine ev_sub (lo := [(6, .int z64), (5, .int y15_5), (4, .int y8_4), (3, .int (g2 70 0)), (0, .ref 69), (1, .long ar1)]) rfl (t_sc rfl (t_sc rfl (t_sc rfl (t_sc rfl (t_sc rfl (t_sc rfl t_sn)))))) ?_
                      exact ih48 _ (by omega) gi62 gl62 gr62 (z64) hI hX  (Int.le_trans (by decide : (0:Int) ≤ 1) l64) u64 ((hC62.1 70 0 rfl).1.trans c48_0) (by omega) (fun j => (congrFun ((funext (fun j => (hC62.1 70 j rfl).1) : gi62 70 = gi48 70)) j).trans (j48_1 j)) (by
                                                            intro D hm hb
                                                            obtain ⟨g1, hn, g2, g3⟩ := j48_2 D hm hb
                                                            have hmN : t_ME 0 gi48 D := hm.mv hb (fun j _ _ _ => j48_1 (0 + j))
                                                            have hw54 : w54 = s_hd D y8_4.toInt := (q54.2 D hmN (by omega)).trans ((s_hd_i (D := D) (p := y8_4.toInt) (by omega) (by omega)).trans (by rw [show y8_4.toInt.toNat = y8_4.toNatClampNeg from (by have := t_clamp (i := y8_4) (by omega); omega)])).symm
                                                            have hw55 : w55 = s_hd D y15_5.toInt := (q55.2 D hmN (by omega)).trans ((s_hd_i (D := D) (p := y15_5.toInt) (by omega) (by omega)).trans (by rw [show y15_5.toInt.toNat = y15_5.toNatClampNeg from (by have := t_clamp (i := y15_5) (by omega); omega)])).symm
                                                            have hv := s_bw_e hw54 hw55 e56 e57
                                                            have hne := (t_le0 e58 h59)
                                                            rw [hv] at hne
                                                            exact ⟨(g1.add (s_R4_y (by omega) hne) (fun L hL => q62.2 L _ hL rfl rfl rfl)).cg (by rw [show z64.toInt = y48_6.toInt + 1 by omega]), hn, g2, g3⟩) rfl
                    · have r65 : z58.toInt ≠ 0 := fun e => h59 (Int32.toInt_inj.mp (e.trans (by decide : (0:Int) = (0 : Int32).toInt)))
                      refine ev_incR f_X12_findsReadings (nx := 119) (c := 1) (l := 1) (u := 13) rfl rfl (by decide) (by decide) l48_6 u53 rfl rfl (by decide) (by decide) rfl (fun z66 e66 l66 u66 => ?_)
                      refine ev_jmp f_X12_findsReadings (nx := 78) rfl rfl rfl ?_
                      refine ev_sub (lo := [(6, .int z66), (5, .int y15_5), (4, .int y8_4), (3, .int (g2 70 0)), (0, .ref 69), (1, .long ar1)]) rfl (t_sc rfl (t_sc rfl (t_sc rfl (t_sc rfl (t_sc rfl (t_sc rfl t_sn)))))) ?_
                      exact ih48 _ (by omega) gi48 gl48 gr48 (z66) hI hX  (Int.le_trans (by decide : (0:Int) ≤ 1) l66) u66 c48_0 (by omega) j48_1 (by
                                                            intro D hm hb
                                                            obtain ⟨g1, hn, g2, g3⟩ := j48_2 D hm hb
                                                            have hmN : t_ME 0 gi48 D := hm.mv hb (fun j _ _ _ => j48_1 (0 + j))
                                                            have hw54 : w54 = s_hd D y8_4.toInt := (q54.2 D hmN (by omega)).trans ((s_hd_i (D := D) (p := y8_4.toInt) (by omega) (by omega)).trans (by rw [show y8_4.toInt.toNat = y8_4.toNatClampNeg from (by have := t_clamp (i := y8_4) (by omega); omega)])).symm
                                                            have hw55 : w55 = s_hd D y15_5.toInt := (q55.2 D hmN (by omega)).trans ((s_hd_i (D := D) (p := y15_5.toInt) (by omega) (by omega)).trans (by rw [show y15_5.toInt.toNat = y15_5.toNatClampNeg from (by have := t_clamp (i := y15_5) (by omega); omega)])).symm
                                                            have hv := s_bw_e hw54 hw55 e56 e57
                                                            have hne := (t_le1 e58 h59)
                                                            rw [hv] at hne
                                                            exact ⟨g1.cg ((s_R4_n (by omega) hne).trans (by rw [show z66.toInt = y48_6.toInt + 1 by omega])), hn, g2, g3⟩) rfl
                refine ev_sub (lo := [(6, .int 1), (5, .int y15_5), (4, .int y8_4), (3, .int (g2 70 0)), (0, .ref 69), (1, .long ar1)]) rfl (t_sc rfl (t_sc rfl (t_sc rfl (t_sc rfl (t_sc rfl (t_sc rfl t_sn)))))) ?_
                exact L48 _ gi15 gl15 gr15 (1) hI hX  (Int.le_trans (by decide : (0:Int) ≤ 1) (by decide : (1:Int) ≤ (1:Int32).toInt)) (Int.le_trans (by decide : (1:Int32).toInt ≤ (1:Int)) (by decide : (1:Int) ≤ 13)) c15_0 (by have kf67 : (1 : Int32).toInt = 1 := (by decide); omega) j15_1 (by
                                                            intro D hm hb
                                                            obtain ⟨g1, hn, g2⟩ := j15_2 D hm hb
                                                            have hl2 : s_lb y8_4.toInt y15_5.toInt = (1 : Int32).toInt := s_lb_1 (by omega)
                                                            exact ⟨g1.cg ((s_R3_s (by omega)).trans (by rw [hl2])), hn, g2, by omega⟩) rfl
          refine ev_sub (lo := [(5, .int 0), (4, .int y8_4), (3, .int (g2 70 0)), (0, .ref 69), (1, .long ar1)]) rfl (t_sc rfl (t_sc rfl (t_sc rfl (t_sc rfl (t_sc rfl t_sn))))) ?_
          exact L15 _ gi8 gl8 gr8 (0) hI hX  (by decide : (0:Int) ≤ (0:Int32).toInt) (Int.le_trans (by decide : (0:Int32).toInt ≤ (0:Int)) (by decide : (0:Int) ≤ 6)) c8_0 (by have kf68 : (0 : Int32).toInt = 0 := (by decide); omega) j8_1 (by
                                                            intro D hm hb
                                                            obtain ⟨g1, hn⟩ := j8_2 D hm hb
                                                            exact ⟨g1.cg (s_R2_s (by omega)), hn, by omega⟩) rfl
      refine ev_sub (lo := [(4, .int 0), (3, .int (g2 70 0)), (0, .ref 69), (1, .long ar1)]) rfl (t_sc rfl (t_sc rfl (t_sc rfl (t_sc rfl t_sn)))) ?_
      exact L8 _ gi4 gl4 gr4 (0) hI hX  (by decide : (0:Int) ≤ (0:Int32).toInt) (Int.le_trans (by decide : (0:Int32).toInt ≤ (0:Int)) (by decide : (0:Int) ≤ 6)) c4_0 (by have kf69 : (0 : Int32).toInt = 0 := (by decide); omega) j4_1 (by
                                                            intro D hm hb
                                                            obtain ⟨g1, hn⟩ := j4_2 D hm hb
                                                            exact ⟨g1.cg (s_R1_e (by omega)), hn⟩) rfl
    · have r70 : y4_4.toInt < (g2 70 0).toInt := Int32.lt_iff_toInt_lt.mp (t_nle h6)
      have u71 : y4_4.toInt ≤ 5 := t_ltu (t_nle h6) u3 rfl
      have l72 : 1 ≤ (g2 70 0).toInt := t_ltl (t_nle h6) l4_4 rfl
      refine ev_loc f_X12_findsReadings (nx := 22) rfl rfl rfl rfl ?_
      refine ev_loc f_X12_findsReadings (nx := 24) rfl rfl rfl rfl ?_
      refine ev_qL0 f_X12_findsReadings (nx := 27) (r := []) rfl rfl rfl rfl rfl rfl rfl (c_n_heardOf hI (y4_4) l4_4 u71) rfl (fun w73 q73 => ?_)
      have q73 : (0 ≤ w73.toInt ∧ w73.toInt < 8589934592) ∧ ∀ D : s_D, t_ME 0 gi4 D → y4_4.toInt < D 0 → w73 = s_ec (s_so D y4_4.toNatClampNeg) (D 7) := q73
      refine ev_loc f_X12_findsReadings (nx := 28) rfl rfl rfl rfl ?_
      refine ev_anyIE f_X12_findsReadings (nx := 29) rfl rfl rfl rfl (fun z74 e74 => ?_)
      refine ev_if f_X12_findsReadings (t1 := 32) (t2 := 40) rfl rfl rfl (fun h75 => ?_) (fun h75 => ?_)
      · have u76 : z74.toInt ≤ 0 := t_equ h75 (by decide : (0:Int32).toInt ≤ (0:Int))
        have l77 : 0 ≤ z74.toInt := t_eql h75 (by decide : (0:Int) ≤ (0:Int32).toInt)
        refine ev_loc f_X12_findsReadings (nx := 33) rfl rfl rfl rfl ?_
        refine ev_loc f_X12_findsReadings (nx := 35) rfl rfl rfl rfl ?_
        refine ev_ic f_X12_findsReadings (nx := 36) (v := -1) rfl (by decide) rfl ?_
        refine ev_ic f_X12_findsReadings (nx := 37) (v := -1) rfl (by decide) rfl ?_
        refine ev_qN f_X12_findsReadings (nx := 40) (r := []) rfl rfl rfl rfl rfl rfl rfl (c_n_reads hI (y4_4) ((-1)) ((-1)) (by omega)) rfl hX rfl (fun gi78 gl78 gr78 hI hX hC78 q78 => ?_)
        have q78 : (gi78 69 29).toInt = (gi4 69 29).toInt + 1 ∧ (∀ (L : s_RL) (t : Int × Int × Int), s_S2 gi4 L → y4_4.toInt = t.1 → (-1) = t.2.1 → (-1) = t.2.2 → s_S2 gi78 (L ++ [t])) := q78
        obtain ⟨l79, u79⟩ := hI.b (hI.wf.s (k := 69) rfl) (t_bdK rfl : t_bd 11 29 = some (0, 500))
        refine ev_incR f_X12_findsReadings (nx := 43) (c := 1) (l := 1) (u := 6) rfl rfl (by decide) (by decide) l4_4 u71 rfl rfl (by decide) (by decide) rfl (fun z80 e80 l80 u80 => ?_)
        refine ev_jmp f_X12_findsReadings (nx := 15) rfl rfl rfl ?_
        refine ev_sub (lo := [(4, .int z80), (3, .int (g2 70 0)), (0, .ref 69), (1, .long ar1)]) rfl (t_sc rfl (t_sc rfl (t_sc rfl (t_sc rfl t_sn)))) ?_
        exact ih4 _ (by omega) gi78 gl78 gr78 (z80) hI hX  (Int.le_trans (by decide : (0:Int) ≤ 1) l80) u80 ((hC78.1 70 0 rfl).1.trans c4_0) (by omega) (fun j => (congrFun ((funext (fun j => (hC78.1 70 j rfl).1) : gi78 70 = gi4 70)) j).trans (j4_1 j)) (by
                                                            intro D hm hb
                                                            obtain ⟨g1, hn⟩ := j4_2 D hm hb
                                                            have hmN : t_ME 0 gi4 D := hm.mv hb (fun j _ _ _ => j4_1 (0 + j))
                                                            have hw73 : w73 = s_hd D y4_4.toInt := (q73.2 D hmN (by omega)).trans ((s_hd_i (D := D) (p := y4_4.toInt) (by omega) (by omega)).trans (by rw [show y4_4.toInt.toNat = y4_4.toNatClampNeg from (by have := t_clamp (i := y4_4) (by omega); omega)])).symm
                                                            have hne := (t_le0 e74 h75)
                                                            rw [hw73] at hne
                                                            exact ⟨(g1.add (s_R1_y (by omega) hne) (fun L hL => q78.2 L _ hL rfl rfl rfl)).cg (by rw [show z80.toInt = y4_4.toInt + 1 by omega]), hn⟩) rfl
      · have r81 : z74.toInt ≠ 0 := fun e => h75 (Int32.toInt_inj.mp (e.trans (by decide : (0:Int) = (0 : Int32).toInt)))
        refine ev_incR f_X12_findsReadings (nx := 43) (c := 1) (l := 1) (u := 6) rfl rfl (by decide) (by decide) l4_4 u71 rfl rfl (by decide) (by decide) rfl (fun z82 e82 l82 u82 => ?_)
        refine ev_jmp f_X12_findsReadings (nx := 15) rfl rfl rfl ?_
        refine ev_sub (lo := [(4, .int z82), (3, .int (g2 70 0)), (0, .ref 69), (1, .long ar1)]) rfl (t_sc rfl (t_sc rfl (t_sc rfl (t_sc rfl t_sn)))) ?_
        exact ih4 _ (by omega) gi4 gl4 gr4 (z82) hI hX  (Int.le_trans (by decide : (0:Int) ≤ 1) l82) u82 c4_0 (by omega) j4_1 (by
                                                            intro D hm hb
                                                            obtain ⟨g1, hn⟩ := j4_2 D hm hb
                                                            have hmN : t_ME 0 gi4 D := hm.mv hb (fun j _ _ _ => j4_1 (0 + j))
                                                            have hw73 : w73 = s_hd D y4_4.toInt := (q73.2 D hmN (by omega)).trans ((s_hd_i (D := D) (p := y4_4.toInt) (by omega) (by omega)).trans (by rw [show y4_4.toInt.toNat = y4_4.toNatClampNeg from (by have := t_clamp (i := y4_4) (by omega); omega)])).symm
                                                            have hne := (t_le1 e74 h75)
                                                            rw [hw73] at hne
                                                            exact ⟨g1.cg ((s_R1_n (by omega) hne).trans (by rw [show z82.toInt = y4_4.toInt + 1 by omega])), hn⟩) rfl
  refine ev_sub (lo := [(4, .int 0), (3, .int (g2 70 0)), (0, .ref 69), (1, .long ar1)]) rfl (t_sc rfl (t_sc rfl (t_sc rfl (t_sc rfl t_sn)))) ?_
  exact L4 _ g2 gl gr (0) hI hX  (by decide : (0:Int) ≤ (0:Int32).toInt) (Int.le_trans (by decide : (0:Int32).toInt ≤ (0:Int)) (by decide : (0:Int) ≤ 6)) rfl (by have kf83 : (0 : Int32).toInt = 0 := (by decide); have ff84 : (g2 69 29).toInt = 0 := (congrArg Int32.toInt (by rw [e2]; exact x_up2_at _ _ _ _ : g2 69 29 = 0)).trans (by decide); omega) (fun j => (congrFun ((by rw [e2]; exact x_up2_ne (by decide) : g2 70 = gi 70)) j).trans ((fun _ => rfl) j)) (by
                                                            intro D hm hb
                                                            have ff85 : (g2 69 29).toInt = 0 := (congrArg Int32.toInt (by rw [e2]; exact x_up2_at _ _ _ _ : g2 69 29 = 0)).trans (by decide)
                                                            have hn : (g2 70 0).toInt = D 0 := by rw [e2, x_up2_off (Or.inl (by decide))]; exact hm.1.1.1
                                                            exact ⟨s_RI.nil (s_S2_nil (by omega)) s_R1_0, hn⟩) rfl
noncomputable def wl_e_readings : List (Nat × Nat) := [(69, 2), (69, 29), (69, 30), (78, 9999), (79, 9999), (80, 9999), (81, 9999), (82, 9999), (83, 9999)]
noncomputable def Q_e_readings (gi : Nat → Nat → Int32) (gl : Nat → Nat → Int64) (gr : Nat → Nat → Value) (ar1 : Int64) : Int32 → (Nat → Nat → Int32) → (Nat → Nat → Int64) → (Nat → Nat → Value) → Prop := fun (v : Int32) (gi2 : Nat → Nat → Int32) (gl2 : Nat → Nat → Int64) (gr2 : Nat → Nat → Value) => (∀ D : s_D, t_ME 0 gi D → t_Cb D → (1 ≤ ar1.toInt → s_S3 gi2 (s_rL D ar1) ∧ v.toInt = ((s_rL D ar1).length : Int)) ∧ (ar1.toInt < 1 → v.toInt = -1 ∧ ∀ L, s_S3 gi L → s_S3 gi2 L))
theorem c_e_readings {X : x_Ext} {d : Nat} {sh : List (Nat ⊕ (Nat × Nat))} {gi : Nat → Nat → Int32} {gl : Nat → Nat → Int64} {gr : Nat → Nat → Value} (hI : t_I sh gi gr) (ar1 : Int64) : x_Me X (d + 5) n_X12_readings [.ref 69, .long ar1] (sh, gi, gl, gr) (t_PI wl_e_readings sh gi gl gr (-1) 500 (Q_e_readings gi gl gr ar1)) := by
  have hX : t_X wl_e_readings sh gi gl gr gi gl gr := t_X.rf
  refine me_i f_X12_readings (hI.wf.s rfl) rfl rfl rfl ?_
  obtain ⟨l1, u1⟩ := hI.b (hI.wf.s (k := 69) rfl) (t_bdK rfl : t_bd 11 29 = some (0, 500))
  refine ev_loc f_X12_readings (nx := 1) rfl rfl rfl rfl ?_
  refine ev_lc f_X12_readings (nx := 2) (v := 1) rfl (by decide) rfl ?_
  refine ev_anyIE f_X12_readings (nx := 3) rfl rfl rfl rfl (fun z2 e2 => ?_)
  refine ev_if f_X12_readings (t1 := 12) (t2 := 6) rfl rfl rfl (fun h3 => ?_) (fun h3 => ?_)
  · have l4 : 0 ≤ z2.toInt := t_lel h3 (by decide : (0:Int) ≤ (0:Int32).toInt)
    refine ev_loc f_X12_readings (nx := 13) rfl rfl rfl rfl ?_
    have hlt := (t_lt1r e2 h3)
    refine ev_loc f_X12_readings (nx := 14) rfl rfl rfl rfl ?_
    refine ev_qN f_X12_readings (nx := 17) (r := []) rfl rfl rfl rfl rfl rfl rfl (c_l_findsReadings hI (ar1)) rfl hX rfl (fun gi5 gl5 gr5 hI hX hC5 q5 => ?_)
    have q5 : (gi5 69 29).toInt ≤ 474 ∧ (∀ j, gi5 70 j = gi 70 j) ∧ (∀ D : s_D, t_ME 0 gi D → t_Cb D → s_S2 gi5 (s_rL D ar1)) := q5
    obtain ⟨l6, u6⟩ := hI.b (hI.wf.s (k := 69) rfl) (t_bdK rfl : t_bd 11 29 = some (0, 500))
    refine ev_ic f_X12_readings (nx := 18) (v := 0) rfl (by decide) rfl ?_
    refine ev_loc f_X12_readings (nx := 19) (lo' := [(3, .int 0), (0, .ref 69), (1, .long ar1)]) rfl rfl rfl rfl ?_
    have L7 : ∀ (m7 : Nat) (gi7 : Nat → Nat → Int32) (gl7 : Nat → Nat → Int64) (gr7 : Nat → Nat → Value) (y7_3 : Int32), t_I sh gi7 gr7 → t_X wl_e_readings sh gi gl gr gi7 gl7 gr7 → 0 ≤ y7_3.toInt → y7_3.toInt ≤ 899 → gi7 69 29 = (gi5 69 29) → (gi7 69 29).toInt ≤ 474 → (∀ k : Nat, (k : Int) < y7_3.toInt → gi7 81 k = gi7 78 k ∧ gi7 82 k = gi7 79 k ∧ gi7 83 k = gi7 80 k) → (∀ D : s_D, t_ME 0 gi D → t_Cb D → s_S2 gi7 (s_rL D ar1)) → (899 - y7_3.toInt).toNat = m7 → x_Ev X (d + 5) n_X12_readings 19 [(3, .int y7_3), (0, .ref 69), (1, .long ar1)] [] (sh, gi7, gl7, gr7) (t_PI wl_e_readings sh gi gl gr (-1) 500 (Q_e_readings gi gl gr ar1)) := by
      intro m7
      induction m7 using Nat.strongRecOn with
      | _ m7 ih7 =>
      intro gi7 gl7 gr7 y7_3 hI hX l7_3 u7_3 c7_0 j7_0 j7_1 j7_2 hm7
      refine ev_loc f_X12_readings (nx := 20) rfl rfl rfl rfl ?_
      refine ev_loc f_X12_readings (nx := 21) rfl rfl rfl rfl ?_
      refine ev_gvI f_X12_readings (nx := 24) (w := (gi5 69 29)) rfl (hI.wf.s rfl) rfl rfl c7_0 rfl ?_
      refine ev_if f_X12_readings (t1 := 69) (t2 := 27) rfl rfl rfl (fun h8 => ?_) (fun h8 => ?_)
      · have r9 : (gi5 69 29).toInt ≤ y7_3.toInt := Int32.le_iff_toInt_le.mp h8
        refine ev_loc f_X12_readings (nx := 70) rfl rfl rfl rfl ?_
        refine ev_loc f_X12_readings (nx := 71) rfl rfl rfl rfl ?_
        refine ev_gvI f_X12_readings (nx := 74) (w := (gi5 69 29)) rfl (hI.wf.s rfl) rfl rfl c7_0 rfl ?_
        refine ev_putIT f_X12_readings (nx := 77) rfl (hI.wf.s rfl) rfl rfl rfl (hI.putB (hI.wf.s rfl) rfl rfl l6 (by decide) u6 (by decide)) (hX.upI rfl) (fun g10 e10 hI hX => ?_)
        refine ev_loc f_X12_readings (nx := 78) rfl rfl rfl rfl ?_
        refine ev_loc f_X12_readings (nx := 79) rfl rfl rfl rfl ?_
        refine ev_gvI f_X12_readings (nx := 82) (w := (gi5 69 29)) rfl (hI.wf.s rfl) rfl rfl ((by rw [e10]; exact x_up2_off (Or.inr (by decide)) : g10 69 29 = gi7 69 29).trans c7_0) rfl ?_
        refine ev_inV2 f_X12_readings (nx := 85) (lo2 := [(0, .ref 69), (1, .int (gi5 69 29))]) rfl rfl rfl rfl f_X12_gives (hI.wf.s rfl) rfl rfl rfl rfl rfl ?_
        refine ev_loc f_X12_gives (nx := 1) rfl rfl rfl rfl ?_
        refine ev_ic f_X12_gives (nx := 2) (v := 0) rfl (by decide) rfl ?_
        refine ev_putIT f_X12_gives (nx := 5) rfl (hI.wf.s rfl) rfl rfl rfl (hI.put0 (hI.wf.s rfl) rfl rfl) (hX.upI rfl) (fun g11 e11 hI hX => ?_)
        refine ev_loc f_X12_gives (nx := 6) rfl rfl rfl rfl ?_
        refine ev_retK1 f_X12_gives rfl rfl rfl ?_
        exact ev_ret f_X12_readings rfl rfl rfl ⟨_, _, _, rfl, hI, hX, ⟨_, rfl, (Int.le_trans (by decide : ((-1):Int) ≤ 0) l6), u6, (show (∀ D : s_D, t_ME 0 gi D → t_Cb D → (1 ≤ ar1.toInt → s_S3 g11 (s_rL D ar1) ∧ (gi5 69 29).toInt = ((s_rL D ar1).length : Int)) ∧ (ar1.toInt < 1 → (gi5 69 29).toInt = -1 ∧ ∀ L, s_S3 gi L → s_S3 g11 L)) from (by
                                                            intro D hm hb
                                                            have h1 := hlt
                                                            have hk0 := congrArg Int32.toInt c7_0
                                                            have g1 := j7_2 D hm hb
                                                            have g2 := j7_1
                                                            have ff12 : (g11 69 30).toInt = (gi5 69 29).toInt := congrArg Int32.toInt ((by rw [e11]; exact x_up2_off (Or.inr (by decide)) : g11 69 30 = g10 69 30).trans (by rw [e10]; exact x_up2_at _ _ _ _ : g10 69 30 = (gi5 69 29)))
                                                            refine ⟨fun _ => ⟨s_S3_of g1 (by omega) (fun k hk => ?_), ?_⟩, fun h => absurd h (by omega)⟩
                                                            · rw [show g11 81 = gi7 81 from (by rw [e11, x_up2_ne (by decide), e10, x_up2_ne (by decide)]), show g11 82 = gi7 82 from (by rw [e11, x_up2_ne (by decide), e10, x_up2_ne (by decide)]), show g11 83 = gi7 83 from (by rw [e11, x_up2_ne (by decide), e10, x_up2_ne (by decide)])]
                                                              exact g2 k (by omega)
                                                            · have g3 := g1.1
                                                              omega))⟩⟩
      · have r13 : y7_3.toInt < (gi5 69 29).toInt := Int32.lt_iff_toInt_lt.mp (t_nle h8)
        have u14 : y7_3.toInt ≤ 499 := t_ltu (t_nle h8) u6 rfl
        have l15 : 1 ≤ (gi5 69 29).toInt := t_ltl (t_nle h8) l7_3 rfl
        refine ev_loc f_X12_readings (nx := 28) rfl rfl rfl rfl ?_
        refine ev_getR f_X12_readings (nx := 31) rfl (hI.wf.s rfl) rfl rfl (hI.wf.r rfl) rfl rfl ?_
        refine ev_loc f_X12_readings (nx := 32) rfl rfl rfl rfl ?_
        refine ev_loc f_X12_readings (nx := 33) rfl rfl rfl rfl ?_
        refine ev_getR f_X12_readings (nx := 36) rfl (hI.wf.s rfl) rfl rfl (hI.wf.r rfl) rfl rfl ?_
        refine ev_loc f_X12_readings (nx := 37) rfl rfl rfl rfl ?_
        refine ev_ialdT f_X12_readings (nx := 38) rfl (hI.wf.s rfl) l7_3 (by decide) u14 (by decide) rfl (fun w16 e16 => ?_)
        refine ev_iastT f_X12_readings (nx := 39) rfl (hI.wf.s rfl) l7_3 (by decide) u14 (by decide) rfl (hI.astG (hI.wf.s rfl) (fun lo hi e => absurd e (t_nob (by decide +kernel) _)) (fun k hk e => by have := hk.2.1; omega)) (hX.upI (t_inA_ok rfl)) (fun g17 e17 hI hX => ?_)
        refine ev_loc f_X12_readings (nx := 40) rfl rfl rfl rfl ?_
        refine ev_getR f_X12_readings (nx := 43) rfl (hI.wf.s rfl) rfl rfl (hI.wf.r rfl) rfl rfl ?_
        refine ev_loc f_X12_readings (nx := 44) rfl rfl rfl rfl ?_
        refine ev_loc f_X12_readings (nx := 45) rfl rfl rfl rfl ?_
        refine ev_getR f_X12_readings (nx := 48) rfl (hI.wf.s rfl) rfl rfl (hI.wf.r rfl) rfl rfl ?_
        refine ev_loc f_X12_readings (nx := 49) rfl rfl rfl rfl ?_
        refine ev_ialdT f_X12_readings (nx := 50) rfl (hI.wf.s rfl) l7_3 (by decide) u14 (by decide) rfl (fun w18 e18 => ?_)
        refine ev_iastT f_X12_readings (nx := 51) rfl (hI.wf.s rfl) l7_3 (by decide) u14 (by decide) rfl (hI.astG (hI.wf.s rfl) (fun lo hi e => absurd e (t_nob (by decide +kernel) _)) (fun k hk e => by have := hk.2.1; omega)) (hX.upI (t_inA_ok rfl)) (fun g19 e19 hI hX => ?_)
        refine ev_loc f_X12_readings (nx := 52) rfl rfl rfl rfl ?_
        refine ev_getR f_X12_readings (nx := 55) rfl (hI.wf.s rfl) rfl rfl (hI.wf.r rfl) rfl rfl ?_
        refine ev_loc f_X12_readings (nx := 56) rfl rfl rfl rfl ?_
        refine ev_loc f_X12_readings (nx := 57) rfl rfl rfl rfl ?_
        refine ev_getR f_X12_readings (nx := 60) rfl (hI.wf.s rfl) rfl rfl (hI.wf.r rfl) rfl rfl ?_
        refine ev_loc f_X12_readings (nx := 61) rfl rfl rfl rfl ?_
        refine ev_ialdT f_X12_readings (nx := 62) rfl (hI.wf.s rfl) l7_3 (by decide) u14 (by decide) rfl (fun w20 e20 => ?_)
        refine ev_iastT f_X12_readings (nx := 63) rfl (hI.wf.s rfl) l7_3 (by decide) u14 (by decide) rfl (hI.astG (hI.wf.s rfl) (fun lo hi e => absurd e (t_nob (by decide +kernel) _)) (fun k hk e => by have := hk.2.1; omega)) (hX.upI (t_inA_ok rfl)) (fun g21 e21 hI hX => ?_)
        refine ev_incR f_X12_readings (nx := 66) (c := 1) (l := 1) (u := 500) rfl rfl (by decide) (by decide) l7_3 u14 rfl rfl (by decide) (by decide) rfl (fun z22 e22 l22 u22 => ?_)
        refine ev_jmp f_X12_readings (nx := 19) rfl rfl rfl ?_
        refine ev_sub (lo := [(3, .int z22), (0, .ref 69), (1, .long ar1)]) rfl (t_sc rfl (t_sc rfl (t_sc rfl t_sn))) ?_
        exact ih7 _ (by omega) g21 gl7 gr7 (z22) hI hX  (Int.le_trans (by decide : (0:Int) ≤ 1) l22) (Int.le_trans u22 (by decide : (500:Int) ≤ 899)) ((by rw [e21]; exact x_up2_off (Or.inl (by decide)) : g21 69 29 = g19 69 29).trans ((by rw [e19]; exact x_up2_off (Or.inl (by decide)) : g19 69 29 = g17 69 29).trans ((by rw [e17]; exact x_up2_off (Or.inl (by decide)) : g17 69 29 = gi7 69 29).trans c7_0))) (by have ff23 : (g21 69 29).toInt = (gi5 69 29).toInt := congrArg Int32.toInt ((by rw [e21]; exact x_up2_off (Or.inl (by decide)) : g21 69 29 = g19 69 29).trans ((by rw [e19]; exact x_up2_off (Or.inl (by decide)) : g19 69 29 = g17 69 29).trans ((by rw [e17]; exact x_up2_off (Or.inl (by decide)) : g17 69 29 = gi7 69 29).trans c7_0))); omega) (by
                                                            intro k hk
                                                            exact s_cp3 j7_1 e17 e16 e19 e18 e21 e20 (by omega) (by omega) k hk) (fun D hm hb => (j7_2 D hm hb).cg (by rw [e21, x_up2_off (Or.inl (by decide)), e19, x_up2_off (Or.inl (by decide)), e17, x_up2_off (Or.inl (by decide))]) (by rw [e21, x_up2_ne (by decide), e19, x_up2_ne (by decide), e17, x_up2_ne (by decide)]) (by rw [e21, x_up2_ne (by decide), e19, x_up2_ne (by decide), e17, x_up2_ne (by decide)]) (by rw [e21, x_up2_ne (by decide), e19, x_up2_ne (by decide), e17, x_up2_ne (by decide)])) rfl
    refine ev_sub (lo := [(3, .int 0), (0, .ref 69), (1, .long ar1)]) rfl (t_sc rfl (t_sc rfl (t_sc rfl t_sn))) ?_
    exact L7 _ gi5 gl5 gr5 (0) hI hX  (by decide : (0:Int) ≤ (0:Int32).toInt) (Int.le_trans (by decide : (0:Int32).toInt ≤ (0:Int)) (by decide : (0:Int) ≤ 899)) rfl (by omega) (by
                                                            intro k hk
                                                            have z0 : (0 : Int32).toInt = 0 := rfl
                                                            omega) q5.2.2 rfl
  · have u24 : z2.toInt ≤ (-1) := t_ltu (t_nle h3) (by decide : (0:Int32).toInt ≤ (0:Int)) rfl
    refine ev_loc f_X12_readings (nx := 7) rfl rfl rfl rfl ?_
    refine ev_ic f_X12_readings (nx := 8) (v := 1) rfl (by decide) rfl ?_
    refine ev_inV2 f_X12_readings (nx := 11) (lo2 := [(0, .ref 69), (1, .int 1)]) rfl rfl rfl rfl f_X12_refuse (hI.wf.s rfl) rfl rfl rfl rfl rfl ?_
    refine ev_loc f_X12_refuse (nx := 1) rfl rfl rfl rfl ?_
    refine ev_loc f_X12_refuse (nx := 2) rfl rfl rfl rfl ?_
    refine ev_putIT f_X12_refuse (nx := 5) rfl (hI.wf.s rfl) rfl rfl rfl (hI.put0 (hI.wf.s rfl) rfl rfl) (hX.upI rfl) (fun g25 e25 hI hX => ?_)
    refine ev_ic f_X12_refuse (nx := 6) (v := -1) rfl (by decide) rfl ?_
    refine ev_retK1 f_X12_refuse rfl rfl rfl ?_
    exact ev_ret f_X12_readings rfl rfl rfl ⟨_, _, _, rfl, hI, hX, ⟨_, rfl, (by decide : ((-1):Int) ≤ ((-1):Int32).toInt), (Int.le_trans (by decide : ((-1):Int32).toInt ≤ ((-1):Int)) (by decide : ((-1):Int) ≤ 500)), (show (∀ D : s_D, t_ME 0 gi D → t_Cb D → (1 ≤ ar1.toInt → s_S3 g25 (s_rL D ar1) ∧ ((-1) : Int) = ((s_rL D ar1).length : Int)) ∧ (ar1.toInt < 1 → ((-1) : Int) = -1 ∧ ∀ L, s_S3 gi L → s_S3 g25 L)) from (by
                                                            intro D hm hb
                                                            have h1 := (t_lt1q e2 h3)
                                                            exact ⟨fun h => absurd h (by omega), fun _ => ⟨rfl, fun L hL => hL.cg (by rw [e25, x_up2_off (Or.inr (by decide))]) (by rw [e25, x_up2_ne (by decide)]) (by rw [e25, x_up2_ne (by decide)]) (by rw [e25, x_up2_ne (by decide)])⟩⟩))⟩⟩
noncomputable def wl_d_reading : List (Nat × Nat) := [(0, 0)]
noncomputable def Q_d_reading (gi : Nat → Nat → Int32) (gl : Nat → Nat → Int64) (gr : Nat → Nat → Value) (ar1 : Int32) (ar2 : Int32) : Int32 → (Nat → Nat → Int32) → (Nat → Nat → Int64) → (Nat → Nat → Value) → Prop := fun (v : Int32) (gi2 : Nat → Nat → Int32) (gl2 : Nat → Nat → Int64) (gr2 : Nat → Nat → Value) => ∀ L : s_RL, s_S1 gi L → s_LO L → ((0 ≤ ar1.toInt ∧ ar1.toInt < (L.length : Int) ∧ 0 ≤ ar2.toInt ∧ ar2.toInt ≤ 2) → v.toInt = s_rd L ar1.toNatClampNeg ar2.toInt) ∧ (¬ (0 ≤ ar1.toInt ∧ ar1.toInt < (L.length : Int) ∧ 0 ≤ ar2.toInt ∧ ar2.toInt ≤ 2) → v.toInt = -1)
theorem c_d_reading {X : x_Ext} {d : Nat} {sh : List (Nat ⊕ (Nat × Nat))} {gi : Nat → Nat → Int32} {gl : Nat → Nat → Int64} {gr : Nat → Nat → Value} (hI : t_I sh gi gr) (ar1 : Int32) (ar2 : Int32) : x_Me X (d + 2) n_X11_reading [.ref 0, .int ar1, .int ar2] (sh, gi, gl, gr) (t_PI wl_d_reading sh gi gl gr (-2147483648) 2147483647 (Q_d_reading gi gl gr ar1 ar2)) := by
  have hX : t_X wl_d_reading sh gi gl gr gi gl gr := t_X.rf
  refine me_i f_X11_reading (hI.wf.s rfl) rfl rfl rfl ?_
  refine ev_loc f_X11_reading (nx := 1) rfl rfl rfl rfl ?_
  refine ev_if f_X11_reading (t1 := 9) (t2 := 4) rfl rfl rfl (fun h1 => ?_) (fun h1 => ?_)
  · have u2 : ar2.toInt ≤ (-1) := t_ltu h1 (by decide : (0:Int32).toInt ≤ (0:Int)) rfl
    refine ev_loc f_X11_reading (nx := 10) rfl rfl rfl rfl ?_
    refine ev_ic f_X11_reading (nx := 11) (v := 1) rfl (by decide) rfl ?_
    refine ev_inV2 f_X11_reading (nx := 14) (lo2 := [(0, .ref 0), (1, .int 1)]) rfl rfl rfl rfl f_X11_refuse (hI.wf.s rfl) rfl rfl rfl rfl rfl ?_
    refine ev_loc f_X11_refuse (nx := 1) rfl rfl rfl rfl ?_
    refine ev_loc f_X11_refuse (nx := 2) rfl rfl rfl rfl ?_
    refine ev_putIT f_X11_refuse (nx := 5) rfl (hI.wf.s rfl) rfl rfl rfl (hI.put0 (hI.wf.s rfl) rfl rfl) (hX.upI rfl) (fun g3 e3 hI hX => ?_)
    refine ev_ic f_X11_refuse (nx := 6) (v := -1) rfl (by decide) rfl ?_
    refine ev_retK1 f_X11_refuse rfl rfl rfl ?_
    exact ev_ret f_X11_reading rfl rfl rfl ⟨_, _, _, rfl, hI, hX, ⟨_, rfl, (Int.le_trans (by decide : ((-2147483648):Int) ≤ (-1)) (by decide : ((-1):Int) ≤ ((-1):Int32).toInt)), (Int.le_trans (by decide : ((-1):Int32).toInt ≤ ((-1):Int)) (by decide : ((-1):Int) ≤ 2147483647)), (show ∀ L : s_RL, s_S1 gi L → s_LO L → ((0 ≤ ar1.toInt ∧ ar1.toInt < (L.length : Int) ∧ 0 ≤ ar2.toInt ∧ ar2.toInt ≤ 2) → ((-1) : Int) = s_rd L ar1.toNatClampNeg ar2.toInt) ∧ (¬ (0 ≤ ar1.toInt ∧ ar1.toInt < (L.length : Int) ∧ 0 ≤ ar2.toInt ∧ ar2.toInt ≤ 2) → ((-1) : Int) = -1) from (by
                                                            intro L h hL
                                                            obtain ⟨hn, hl⟩ := h
                                                            have hk : (gi 0 14).toInt = (L.length : Int) := hn
                                                            exact ⟨fun h => absurd h (by omega), fun _ => rfl⟩))⟩⟩
  · have l4 : 0 ≤ ar2.toInt := t_lel (t_nlt h1) (by decide : (0:Int) ≤ (0:Int32).toInt)
    refine ev_loc f_X11_reading (nx := 5) rfl rfl rfl rfl ?_
    refine ev_ic f_X11_reading (nx := 6) (v := 2) rfl (by decide) rfl ?_
    refine ev_if f_X11_reading (t1 := 15) (t2 := 9) rfl rfl rfl (fun h5 => ?_) (fun h5 => ?_)
    · have u6 : ar2.toInt ≤ 2 := t_leu h5 (by decide : (2:Int32).toInt ≤ (2:Int))
      refine ev_loc f_X11_reading (nx := 16) rfl rfl rfl rfl ?_
      refine ev_if f_X11_reading (t1 := 27) (t2 := 19) rfl rfl rfl (fun h7 => ?_) (fun h7 => ?_)
      · have u8 : ar1.toInt ≤ (-1) := t_ltu h7 (by decide : (0:Int32).toInt ≤ (0:Int)) rfl
        refine ev_loc f_X11_reading (nx := 28) rfl rfl rfl rfl ?_
        refine ev_bp f_X11_reading (nx := 30) (v := 6) rfl (by decide) rfl ?_
        refine ev_inV2 f_X11_reading (nx := 33) (lo2 := [(0, .ref 0), (1, .int 6)]) rfl rfl rfl rfl f_X11_refuse (hI.wf.s rfl) rfl rfl rfl rfl rfl ?_
        refine ev_loc f_X11_refuse (nx := 1) rfl rfl rfl rfl ?_
        refine ev_loc f_X11_refuse (nx := 2) rfl rfl rfl rfl ?_
        refine ev_putIT f_X11_refuse (nx := 5) rfl (hI.wf.s rfl) rfl rfl rfl (hI.put0 (hI.wf.s rfl) rfl rfl) (hX.upI rfl) (fun g9 e9 hI hX => ?_)
        refine ev_ic f_X11_refuse (nx := 6) (v := -1) rfl (by decide) rfl ?_
        refine ev_retK1 f_X11_refuse rfl rfl rfl ?_
        exact ev_ret f_X11_reading rfl rfl rfl ⟨_, _, _, rfl, hI, hX, ⟨_, rfl, (Int.le_trans (by decide : ((-2147483648):Int) ≤ (-1)) (by decide : ((-1):Int) ≤ ((-1):Int32).toInt)), (Int.le_trans (by decide : ((-1):Int32).toInt ≤ ((-1):Int)) (by decide : ((-1):Int) ≤ 2147483647)), (show ∀ L : s_RL, s_S1 gi L → s_LO L → ((0 ≤ ar1.toInt ∧ ar1.toInt < (L.length : Int) ∧ 0 ≤ ar2.toInt ∧ ar2.toInt ≤ 2) → ((-1) : Int) = s_rd L ar1.toNatClampNeg ar2.toInt) ∧ (¬ (0 ≤ ar1.toInt ∧ ar1.toInt < (L.length : Int) ∧ 0 ≤ ar2.toInt ∧ ar2.toInt ≤ 2) → ((-1) : Int) = -1) from (by
                                                            intro L h hL
                                                            obtain ⟨hn, hl⟩ := h
                                                            have hk : (gi 0 14).toInt = (L.length : Int) := hn
                                                            exact ⟨fun h => absurd h (by omega), fun _ => rfl⟩))⟩⟩
      · have l10 : 0 ≤ ar1.toInt := t_lel (t_nlt h7) (by decide : (0:Int) ≤ (0:Int32).toInt)
        refine ev_loc f_X11_reading (nx := 20) rfl rfl rfl rfl ?_
        refine ev_loc f_X11_reading (nx := 21) rfl rfl rfl rfl ?_
        refine ev_getI f_X11_reading (nx := 24) rfl (hI.wf.s rfl) rfl rfl rfl ?_
        obtain ⟨l11, u11⟩ := hI.b (hI.wf.s (k := 0) rfl) (t_bdK rfl : t_bd 10 14 = some (0, 474))
        refine ev_if f_X11_reading (t1 := 34) (t2 := 27) rfl rfl rfl (fun h12 => ?_) (fun h12 => ?_)
        · have r13 : ar1.toInt < (gi 0 14).toInt := Int32.lt_iff_toInt_lt.mp h12
          have u14 : ar1.toInt ≤ 473 := t_ltu h12 u11 rfl
          have l15 : 1 ≤ (gi 0 14).toInt := t_ltl h12 l10 rfl
          refine ev_loc f_X11_reading (nx := 35) rfl rfl rfl rfl ?_
          refine ev_if f_X11_reading (t1 := 60) (t2 := 38) rfl rfl rfl (fun h16 => ?_) (fun h16 => ?_)
          · have u17 : ar2.toInt ≤ 0 := t_leu h16 (by decide : (0:Int32).toInt ≤ (0:Int))
            refine ev_loc f_X11_reading (nx := 61) rfl rfl rfl rfl ?_
            refine ev_loc f_X11_reading (nx := 62) rfl rfl rfl rfl ?_
            refine ev_getR f_X11_reading (nx := 65) rfl (hI.wf.s rfl) rfl rfl (hI.wf.r rfl) rfl rfl ?_
            refine ev_ic f_X11_reading (nx := 66) (v := 3) rfl (by decide) rfl ?_
            refine ev_loc f_X11_reading (nx := 67) rfl rfl rfl rfl ?_
            refine ev_mulL f_X11_reading (nx := 68) (c := 3) (l := 0) (u := 1419) rfl (by decide) (by decide) l10 u14 rfl rfl (by decide) (by decide) rfl (fun z18 e18 l18 u18 => ?_)
            refine ev_loc f_X11_reading (nx := 69) rfl rfl rfl rfl ?_
            refine ev_addR f_X11_reading (nx := 70) (l := 0) (u := 1419) rfl l18 u18 l4 u17 rfl rfl (by decide) (by decide) rfl (fun z19 e19 l19 u19 => ?_)
            refine ev_ialdT f_X11_reading (nx := 71) rfl (hI.wf.s rfl) l19 (by decide) u19 (by decide) rfl (fun w20 e20 => ?_)
            refine ev_inV2 f_X11_reading (nx := 74) (lo2 := [(0, .ref 0), (1, .int w20)]) rfl rfl rfl rfl f_X11_answer (hI.wf.s rfl) rfl rfl rfl rfl rfl ?_
            refine ev_loc f_X11_answer (nx := 1) rfl rfl rfl rfl ?_
            refine ev_ic f_X11_answer (nx := 2) (v := 0) rfl (by decide) rfl ?_
            refine ev_putIT f_X11_answer (nx := 5) rfl (hI.wf.s rfl) rfl rfl rfl (hI.put0 (hI.wf.s rfl) rfl rfl) (hX.upI rfl) (fun g21 e21 hI hX => ?_)
            refine ev_loc f_X11_answer (nx := 6) rfl rfl rfl rfl ?_
            refine ev_retK1 f_X11_answer rfl rfl rfl ?_
            exact ev_ret f_X11_reading rfl rfl rfl ⟨_, _, _, rfl, hI, hX, ⟨_, rfl, (t_lo w20), (t_hi w20), (show ∀ L : s_RL, s_S1 gi L → s_LO L → ((0 ≤ ar1.toInt ∧ ar1.toInt < (L.length : Int) ∧ 0 ≤ ar2.toInt ∧ ar2.toInt ≤ 2) → w20.toInt = s_rd L ar1.toNatClampNeg ar2.toInt) ∧ (¬ (0 ≤ ar1.toInt ∧ ar1.toInt < (L.length : Int) ∧ 0 ≤ ar2.toInt ∧ ar2.toInt ≤ 2) → w20.toInt = -1) from (by
                                                            intro L h hL
                                                            obtain ⟨hn, hl⟩ := h
                                                            have hk : (gi 0 14).toInt = (L.length : Int) := hn
                                                            refine ⟨fun _ => ?_, fun h => absurd (show _ from ⟨by omega, by omega, by omega, by omega⟩) h⟩
                                                            have c1 := t_clamp (i := ar1) (by omega)
                                                            obtain ⟨t, ht⟩ := s_rd_g (L := L) (k := ar1.toNatClampNeg) (by omega)
                                                            obtain ⟨v1, v2, v3⟩ := hl _ t ht
                                                            obtain ⟨d0, d1, d2⟩ := s_rd_0 ht
                                                            have ho := hL _ t ht
                                                            have c3 := t_clamp (i := z19) (by omega)
                                                            rw [e20, show z19.toNatClampNeg = 3 * ar1.toNatClampNeg by omega, show ar2.toInt = 0 by omega, d0]; exact v1))⟩⟩
          · have l22 : 1 ≤ ar2.toInt := t_ltl (t_nle h16) (by decide : (0:Int) ≤ (0:Int32).toInt) rfl
            refine ev_loc f_X11_reading (nx := 39) rfl rfl rfl rfl ?_
            refine ev_getR f_X11_reading (nx := 42) rfl (hI.wf.s rfl) rfl rfl (hI.wf.r rfl) rfl rfl ?_
            refine ev_ic f_X11_reading (nx := 43) (v := 3) rfl (by decide) rfl ?_
            refine ev_loc f_X11_reading (nx := 44) rfl rfl rfl rfl ?_
            refine ev_mulL f_X11_reading (nx := 45) (c := 3) (l := 0) (u := 1419) rfl (by decide) (by decide) l10 u14 rfl rfl (by decide) (by decide) rfl (fun z23 e23 l23 u23 => ?_)
            refine ev_ic f_X11_reading (nx := 46) (v := 1) rfl (by decide) rfl ?_
            refine ev_addC f_X11_reading (nx := 47) (c := 1) (l := 1) (u := 1420) rfl (by decide) l23 u23 rfl rfl (by decide) (by decide) rfl (fun z24 e24 l24 u24 => ?_)
            refine ev_ialdT f_X11_reading (nx := 48) rfl (hI.wf.s rfl) l24 (by decide) u24 (by decide) rfl (fun w25 e25 => ?_)
            refine ev_bp f_X11_reading (nx := 50) (v := 6) rfl (by decide) rfl ?_
            refine ev_if f_X11_reading (t1 := 53) (t2 := 60) rfl rfl rfl (fun h26 => ?_) (fun h26 => ?_)
            · have u27 : w25.toInt ≤ 6 := t_equ h26 (by decide : (6:Int32).toInt ≤ (6:Int))
              have l28 : 6 ≤ w25.toInt := t_eql h26 (by decide : (6:Int) ≤ (6:Int32).toInt)
              refine ev_loc f_X11_reading (nx := 54) rfl rfl rfl rfl ?_
              refine ev_bp f_X11_reading (nx := 56) (v := 6) rfl (by decide) rfl ?_
              refine ev_inV2 f_X11_reading (nx := 59) (lo2 := [(0, .ref 0), (1, .int 6)]) rfl rfl rfl rfl f_X11_refuse (hI.wf.s rfl) rfl rfl rfl rfl rfl ?_
              refine ev_loc f_X11_refuse (nx := 1) rfl rfl rfl rfl ?_
              refine ev_loc f_X11_refuse (nx := 2) rfl rfl rfl rfl ?_
              refine ev_putIT f_X11_refuse (nx := 5) rfl (hI.wf.s rfl) rfl rfl rfl (hI.put0 (hI.wf.s rfl) rfl rfl) (hX.upI rfl) (fun g29 e29 hI hX => ?_)
              refine ev_ic f_X11_refuse (nx := 6) (v := -1) rfl (by decide) rfl ?_
              refine ev_retK1 f_X11_refuse rfl rfl rfl ?_
              exact ev_ret f_X11_reading rfl rfl rfl ⟨_, _, _, rfl, hI, hX, ⟨_, rfl, (Int.le_trans (by decide : ((-2147483648):Int) ≤ (-1)) (by decide : ((-1):Int) ≤ ((-1):Int32).toInt)), (Int.le_trans (by decide : ((-1):Int32).toInt ≤ ((-1):Int)) (by decide : ((-1):Int) ≤ 2147483647)), (show ∀ L : s_RL, s_S1 gi L → s_LO L → ((0 ≤ ar1.toInt ∧ ar1.toInt < (L.length : Int) ∧ 0 ≤ ar2.toInt ∧ ar2.toInt ≤ 2) → ((-1) : Int) = s_rd L ar1.toNatClampNeg ar2.toInt) ∧ (¬ (0 ≤ ar1.toInt ∧ ar1.toInt < (L.length : Int) ∧ 0 ≤ ar2.toInt ∧ ar2.toInt ≤ 2) → ((-1) : Int) = -1) from (by
                                                            intro L h hL
                                                            obtain ⟨hn, hl⟩ := h
                                                            have hk : (gi 0 14).toInt = (L.length : Int) := hn
                                                            refine ⟨fun _ => ?_, fun h => absurd (show _ from ⟨by omega, by omega, by omega, by omega⟩) h⟩
                                                            have c1 := t_clamp (i := ar1) (by omega)
                                                            obtain ⟨t, ht⟩ := s_rd_g (L := L) (k := ar1.toNatClampNeg) (by omega)
                                                            obtain ⟨v1, v2, v3⟩ := hl _ t ht
                                                            obtain ⟨d0, d1, d2⟩ := s_rd_0 ht
                                                            have ho := hL _ t ht
                                                            have c2 := t_clamp (i := z24) (by omega)
                                                            have e47 : w25.toInt = s_a6 t.2.1 := by rw [e25, show z24.toNatClampNeg = 3 * ar1.toNatClampNeg + 1 by omega]; exact v2
                                                            have h6 : t.2.1 = -1 ∧ t.2.2 = -1 := s_6_y ho (by rw [← e47]; omega)
                                                            rcases (show ar2.toInt = 1 ∨ ar2.toInt = 2 by omega) with e | e
                                                            · rw [e, d1, h6.1]
                                                            · rw [e, d2, h6.2]))⟩⟩
            · have r30 : w25.toInt ≠ 6 := fun e => h26 (Int32.toInt_inj.mp (e.trans (by decide : (6:Int) = (6 : Int32).toInt)))
              refine ev_loc f_X11_reading (nx := 61) rfl rfl rfl rfl ?_
              refine ev_loc f_X11_reading (nx := 62) rfl rfl rfl rfl ?_
              refine ev_getR f_X11_reading (nx := 65) rfl (hI.wf.s rfl) rfl rfl (hI.wf.r rfl) rfl rfl ?_
              refine ev_ic f_X11_reading (nx := 66) (v := 3) rfl (by decide) rfl ?_
              refine ev_loc f_X11_reading (nx := 67) rfl rfl rfl rfl ?_
              refine ev_mulL f_X11_reading (nx := 68) (c := 3) (l := 0) (u := 1419) rfl (by decide) (by decide) l10 u14 rfl rfl (by decide) (by decide) rfl (fun z31 e31 l31 u31 => ?_)
              refine ev_loc f_X11_reading (nx := 69) rfl rfl rfl rfl ?_
              refine ev_addR f_X11_reading (nx := 70) (l := 1) (u := 1421) rfl l31 u31 l22 u6 rfl rfl (by decide) (by decide) rfl (fun z32 e32 l32 u32 => ?_)
              refine ev_ialdT f_X11_reading (nx := 71) rfl (hI.wf.s rfl) l32 (by decide) u32 (by decide) rfl (fun w33 e33 => ?_)
              refine ev_inV2 f_X11_reading (nx := 74) (lo2 := [(0, .ref 0), (1, .int w33)]) rfl rfl rfl rfl f_X11_answer (hI.wf.s rfl) rfl rfl rfl rfl rfl ?_
              refine ev_loc f_X11_answer (nx := 1) rfl rfl rfl rfl ?_
              refine ev_ic f_X11_answer (nx := 2) (v := 0) rfl (by decide) rfl ?_
              refine ev_putIT f_X11_answer (nx := 5) rfl (hI.wf.s rfl) rfl rfl rfl (hI.put0 (hI.wf.s rfl) rfl rfl) (hX.upI rfl) (fun g34 e34 hI hX => ?_)
              refine ev_loc f_X11_answer (nx := 6) rfl rfl rfl rfl ?_
              refine ev_retK1 f_X11_answer rfl rfl rfl ?_
              exact ev_ret f_X11_reading rfl rfl rfl ⟨_, _, _, rfl, hI, hX, ⟨_, rfl, (t_lo w33), (t_hi w33), (show ∀ L : s_RL, s_S1 gi L → s_LO L → ((0 ≤ ar1.toInt ∧ ar1.toInt < (L.length : Int) ∧ 0 ≤ ar2.toInt ∧ ar2.toInt ≤ 2) → w33.toInt = s_rd L ar1.toNatClampNeg ar2.toInt) ∧ (¬ (0 ≤ ar1.toInt ∧ ar1.toInt < (L.length : Int) ∧ 0 ≤ ar2.toInt ∧ ar2.toInt ≤ 2) → w33.toInt = -1) from (by
                                                            intro L h hL
                                                            obtain ⟨hn, hl⟩ := h
                                                            have hk : (gi 0 14).toInt = (L.length : Int) := hn
                                                            refine ⟨fun _ => ?_, fun h => absurd (show _ from ⟨by omega, by omega, by omega, by omega⟩) h⟩
                                                            have c1 := t_clamp (i := ar1) (by omega)
                                                            obtain ⟨t, ht⟩ := s_rd_g (L := L) (k := ar1.toNatClampNeg) (by omega)
                                                            obtain ⟨v1, v2, v3⟩ := hl _ t ht
                                                            obtain ⟨d0, d1, d2⟩ := s_rd_0 ht
                                                            have ho := hL _ t ht
                                                            have c3 := t_clamp (i := z32) (by omega)
                                                            have c2 := t_clamp (i := z24) (by omega)
                                                            have e47 : w25.toInt = s_a6 t.2.1 := by rw [e25, show z24.toNatClampNeg = 3 * ar1.toNatClampNeg + 1 by omega]; exact v2
                                                            obtain ⟨h6, h7⟩ := s_6_n ho (by rw [← e47]; omega)
                                                            rcases (show ar2.toInt = 1 ∨ ar2.toInt = 2 by omega) with e | e
                                                            · rw [e33, show z32.toNatClampNeg = 3 * ar1.toNatClampNeg + 1 by omega, e, d1, ← h6]; exact v2
                                                            · rw [e33, show z32.toNatClampNeg = 3 * ar1.toNatClampNeg + 2 by omega, e, d2, ← h7]; exact v3))⟩⟩
        · have r35 : (gi 0 14).toInt ≤ ar1.toInt := Int32.le_iff_toInt_le.mp (t_nlt h12)
          refine ev_loc f_X11_reading (nx := 28) rfl rfl rfl rfl ?_
          refine ev_bp f_X11_reading (nx := 30) (v := 6) rfl (by decide) rfl ?_
          refine ev_inV2 f_X11_reading (nx := 33) (lo2 := [(0, .ref 0), (1, .int 6)]) rfl rfl rfl rfl f_X11_refuse (hI.wf.s rfl) rfl rfl rfl rfl rfl ?_
          refine ev_loc f_X11_refuse (nx := 1) rfl rfl rfl rfl ?_
          refine ev_loc f_X11_refuse (nx := 2) rfl rfl rfl rfl ?_
          refine ev_putIT f_X11_refuse (nx := 5) rfl (hI.wf.s rfl) rfl rfl rfl (hI.put0 (hI.wf.s rfl) rfl rfl) (hX.upI rfl) (fun g36 e36 hI hX => ?_)
          refine ev_ic f_X11_refuse (nx := 6) (v := -1) rfl (by decide) rfl ?_
          refine ev_retK1 f_X11_refuse rfl rfl rfl ?_
          exact ev_ret f_X11_reading rfl rfl rfl ⟨_, _, _, rfl, hI, hX, ⟨_, rfl, (Int.le_trans (by decide : ((-2147483648):Int) ≤ (-1)) (by decide : ((-1):Int) ≤ ((-1):Int32).toInt)), (Int.le_trans (by decide : ((-1):Int32).toInt ≤ ((-1):Int)) (by decide : ((-1):Int) ≤ 2147483647)), (show ∀ L : s_RL, s_S1 gi L → s_LO L → ((0 ≤ ar1.toInt ∧ ar1.toInt < (L.length : Int) ∧ 0 ≤ ar2.toInt ∧ ar2.toInt ≤ 2) → ((-1) : Int) = s_rd L ar1.toNatClampNeg ar2.toInt) ∧ (¬ (0 ≤ ar1.toInt ∧ ar1.toInt < (L.length : Int) ∧ 0 ≤ ar2.toInt ∧ ar2.toInt ≤ 2) → ((-1) : Int) = -1) from (by
                                                            intro L h hL
                                                            obtain ⟨hn, hl⟩ := h
                                                            have hk : (gi 0 14).toInt = (L.length : Int) := hn
                                                            exact ⟨fun h => absurd h (by omega), fun _ => rfl⟩))⟩⟩
    · have l37 : 3 ≤ ar2.toInt := t_ltl (t_nle h5) (by decide : (2:Int) ≤ (2:Int32).toInt) rfl
      refine ev_loc f_X11_reading (nx := 10) rfl rfl rfl rfl ?_
      refine ev_ic f_X11_reading (nx := 11) (v := 1) rfl (by decide) rfl ?_
      refine ev_inV2 f_X11_reading (nx := 14) (lo2 := [(0, .ref 0), (1, .int 1)]) rfl rfl rfl rfl f_X11_refuse (hI.wf.s rfl) rfl rfl rfl rfl rfl ?_
      refine ev_loc f_X11_refuse (nx := 1) rfl rfl rfl rfl ?_
      refine ev_loc f_X11_refuse (nx := 2) rfl rfl rfl rfl ?_
      refine ev_putIT f_X11_refuse (nx := 5) rfl (hI.wf.s rfl) rfl rfl rfl (hI.put0 (hI.wf.s rfl) rfl rfl) (hX.upI rfl) (fun g38 e38 hI hX => ?_)
      refine ev_ic f_X11_refuse (nx := 6) (v := -1) rfl (by decide) rfl ?_
      refine ev_retK1 f_X11_refuse rfl rfl rfl ?_
      exact ev_ret f_X11_reading rfl rfl rfl ⟨_, _, _, rfl, hI, hX, ⟨_, rfl, (Int.le_trans (by decide : ((-2147483648):Int) ≤ (-1)) (by decide : ((-1):Int) ≤ ((-1):Int32).toInt)), (Int.le_trans (by decide : ((-1):Int32).toInt ≤ ((-1):Int)) (by decide : ((-1):Int) ≤ 2147483647)), (show ∀ L : s_RL, s_S1 gi L → s_LO L → ((0 ≤ ar1.toInt ∧ ar1.toInt < (L.length : Int) ∧ 0 ≤ ar2.toInt ∧ ar2.toInt ≤ 2) → ((-1) : Int) = s_rd L ar1.toNatClampNeg ar2.toInt) ∧ (¬ (0 ≤ ar1.toInt ∧ ar1.toInt < (L.length : Int) ∧ 0 ≤ ar2.toInt ∧ ar2.toInt ≤ 2) → ((-1) : Int) = -1) from (by
                                                            intro L h hL
                                                            obtain ⟨hn, hl⟩ := h
                                                            have hk : (gi 0 14).toInt = (L.length : Int) := hn
                                                            exact ⟨fun h => absurd h (by omega), fun _ => rfl⟩))⟩⟩
noncomputable def wl_e_reading : List (Nat × Nat) := [(69, 2)]
noncomputable def Q_e_reading (gi : Nat → Nat → Int32) (gl : Nat → Nat → Int64) (gr : Nat → Nat → Value) (ar1 : Int32) (ar2 : Int32) : Int32 → (Nat → Nat → Int32) → (Nat → Nat → Int64) → (Nat → Nat → Value) → Prop := fun (v : Int32) (gi2 : Nat → Nat → Int32) (gl2 : Nat → Nat → Int64) (gr2 : Nat → Nat → Value) => ∀ L : s_RL, s_S3 gi L → s_LO L → ((0 ≤ ar1.toInt ∧ ar1.toInt < (L.length : Int) ∧ 0 ≤ ar2.toInt ∧ ar2.toInt ≤ 2) → v.toInt = s_rd L ar1.toNatClampNeg ar2.toInt) ∧ (¬ (0 ≤ ar1.toInt ∧ ar1.toInt < (L.length : Int) ∧ 0 ≤ ar2.toInt ∧ ar2.toInt ≤ 2) → v.toInt = -1)
theorem c_e_reading {X : x_Ext} {d : Nat} {sh : List (Nat ⊕ (Nat × Nat))} {gi : Nat → Nat → Int32} {gl : Nat → Nat → Int64} {gr : Nat → Nat → Value} (hI : t_I sh gi gr) (ar1 : Int32) (ar2 : Int32) : x_Me X (d + 3) n_X12_reading [.ref 69, .int ar1, .int ar2] (sh, gi, gl, gr) (t_PI wl_e_reading sh gi gl gr (-2147483648) 2147483647 (Q_e_reading gi gl gr ar1 ar2)) := by
  have hX : t_X wl_e_reading sh gi gl gr gi gl gr := t_X.rf
  refine me_i f_X12_reading (hI.wf.s rfl) rfl rfl rfl ?_
  refine ev_loc f_X12_reading (nx := 1) rfl rfl rfl rfl ?_
  refine ev_if f_X12_reading (t1 := 9) (t2 := 4) rfl rfl rfl (fun h1 => ?_) (fun h1 => ?_)
  · have u2 : ar2.toInt ≤ (-1) := t_ltu h1 (by decide : (0:Int32).toInt ≤ (0:Int)) rfl
    refine ev_loc f_X12_reading (nx := 10) rfl rfl rfl rfl ?_
    refine ev_ic f_X12_reading (nx := 11) (v := 1) rfl (by decide) rfl ?_
    refine ev_inV2 f_X12_reading (nx := 14) (lo2 := [(0, .ref 69), (1, .int 1)]) rfl rfl rfl rfl f_X12_refuse (hI.wf.s rfl) rfl rfl rfl rfl rfl ?_
    refine ev_loc f_X12_refuse (nx := 1) rfl rfl rfl rfl ?_
    refine ev_loc f_X12_refuse (nx := 2) rfl rfl rfl rfl ?_
    refine ev_putIT f_X12_refuse (nx := 5) rfl (hI.wf.s rfl) rfl rfl rfl (hI.put0 (hI.wf.s rfl) rfl rfl) (hX.upI rfl) (fun g3 e3 hI hX => ?_)
    refine ev_ic f_X12_refuse (nx := 6) (v := -1) rfl (by decide) rfl ?_
    refine ev_retK1 f_X12_refuse rfl rfl rfl ?_
    exact ev_ret f_X12_reading rfl rfl rfl ⟨_, _, _, rfl, hI, hX, ⟨_, rfl, (Int.le_trans (by decide : ((-2147483648):Int) ≤ (-1)) (by decide : ((-1):Int) ≤ ((-1):Int32).toInt)), (Int.le_trans (by decide : ((-1):Int32).toInt ≤ ((-1):Int)) (by decide : ((-1):Int) ≤ 2147483647)), (show ∀ L : s_RL, s_S3 gi L → s_LO L → ((0 ≤ ar1.toInt ∧ ar1.toInt < (L.length : Int) ∧ 0 ≤ ar2.toInt ∧ ar2.toInt ≤ 2) → ((-1) : Int) = s_rd L ar1.toNatClampNeg ar2.toInt) ∧ (¬ (0 ≤ ar1.toInt ∧ ar1.toInt < (L.length : Int) ∧ 0 ≤ ar2.toInt ∧ ar2.toInt ≤ 2) → ((-1) : Int) = -1) from (by
                                                            intro L h hL
                                                            obtain ⟨hn, hl⟩ := h
                                                            have hk : (gi 69 30).toInt = (L.length : Int) := hn
                                                            exact ⟨fun h => absurd h (by omega), fun _ => rfl⟩))⟩⟩
  · have l4 : 0 ≤ ar2.toInt := t_lel (t_nlt h1) (by decide : (0:Int) ≤ (0:Int32).toInt)
    refine ev_loc f_X12_reading (nx := 5) rfl rfl rfl rfl ?_
    refine ev_ic f_X12_reading (nx := 6) (v := 2) rfl (by decide) rfl ?_
    refine ev_if f_X12_reading (t1 := 15) (t2 := 9) rfl rfl rfl (fun h5 => ?_) (fun h5 => ?_)
    · have u6 : ar2.toInt ≤ 2 := t_leu h5 (by decide : (2:Int32).toInt ≤ (2:Int))
      refine ev_loc f_X12_reading (nx := 16) rfl rfl rfl rfl ?_
      refine ev_if f_X12_reading (t1 := 27) (t2 := 19) rfl rfl rfl (fun h7 => ?_) (fun h7 => ?_)
      · have u8 : ar1.toInt ≤ (-1) := t_ltu h7 (by decide : (0:Int32).toInt ≤ (0:Int)) rfl
        refine ev_loc f_X12_reading (nx := 28) rfl rfl rfl rfl ?_
        refine ev_bp f_X12_reading (nx := 30) (v := 6) rfl (by decide) rfl ?_
        refine ev_inV2 f_X12_reading (nx := 33) (lo2 := [(0, .ref 69), (1, .int 6)]) rfl rfl rfl rfl f_X12_refuse (hI.wf.s rfl) rfl rfl rfl rfl rfl ?_
        refine ev_loc f_X12_refuse (nx := 1) rfl rfl rfl rfl ?_
        refine ev_loc f_X12_refuse (nx := 2) rfl rfl rfl rfl ?_
        refine ev_putIT f_X12_refuse (nx := 5) rfl (hI.wf.s rfl) rfl rfl rfl (hI.put0 (hI.wf.s rfl) rfl rfl) (hX.upI rfl) (fun g9 e9 hI hX => ?_)
        refine ev_ic f_X12_refuse (nx := 6) (v := -1) rfl (by decide) rfl ?_
        refine ev_retK1 f_X12_refuse rfl rfl rfl ?_
        exact ev_ret f_X12_reading rfl rfl rfl ⟨_, _, _, rfl, hI, hX, ⟨_, rfl, (Int.le_trans (by decide : ((-2147483648):Int) ≤ (-1)) (by decide : ((-1):Int) ≤ ((-1):Int32).toInt)), (Int.le_trans (by decide : ((-1):Int32).toInt ≤ ((-1):Int)) (by decide : ((-1):Int) ≤ 2147483647)), (show ∀ L : s_RL, s_S3 gi L → s_LO L → ((0 ≤ ar1.toInt ∧ ar1.toInt < (L.length : Int) ∧ 0 ≤ ar2.toInt ∧ ar2.toInt ≤ 2) → ((-1) : Int) = s_rd L ar1.toNatClampNeg ar2.toInt) ∧ (¬ (0 ≤ ar1.toInt ∧ ar1.toInt < (L.length : Int) ∧ 0 ≤ ar2.toInt ∧ ar2.toInt ≤ 2) → ((-1) : Int) = -1) from (by
                                                            intro L h hL
                                                            obtain ⟨hn, hl⟩ := h
                                                            have hk : (gi 69 30).toInt = (L.length : Int) := hn
                                                            exact ⟨fun h => absurd h (by omega), fun _ => rfl⟩))⟩⟩
      · have l10 : 0 ≤ ar1.toInt := t_lel (t_nlt h7) (by decide : (0:Int) ≤ (0:Int32).toInt)
        refine ev_loc f_X12_reading (nx := 20) rfl rfl rfl rfl ?_
        refine ev_loc f_X12_reading (nx := 21) rfl rfl rfl rfl ?_
        refine ev_getI f_X12_reading (nx := 24) rfl (hI.wf.s rfl) rfl rfl rfl ?_
        obtain ⟨l11, u11⟩ := hI.b (hI.wf.s (k := 69) rfl) (t_bdK rfl : t_bd 11 30 = some (0, 500))
        refine ev_if f_X12_reading (t1 := 34) (t2 := 27) rfl rfl rfl (fun h12 => ?_) (fun h12 => ?_)
        · have r13 : ar1.toInt < (gi 69 30).toInt := Int32.lt_iff_toInt_lt.mp h12
          have u14 : ar1.toInt ≤ 499 := t_ltu h12 u11 rfl
          have l15 : 1 ≤ (gi 69 30).toInt := t_ltl h12 l10 rfl
          refine ev_loc f_X12_reading (nx := 35) rfl rfl rfl rfl ?_
          refine ev_loc f_X12_reading (nx := 36) rfl rfl rfl rfl ?_
          refine ev_if f_X12_reading (t1 := 39) (t2 := 48) rfl rfl rfl (fun h16 => ?_) (fun h16 => ?_)
          · have u17 : ar2.toInt ≤ 0 := t_equ h16 (by decide : (0:Int32).toInt ≤ (0:Int))
            refine ev_loc f_X12_reading (nx := 40) rfl rfl rfl rfl ?_
            refine ev_getR f_X12_reading (nx := 43) rfl (hI.wf.s rfl) rfl rfl (hI.wf.r rfl) rfl rfl ?_
            refine ev_loc f_X12_reading (nx := 44) rfl rfl rfl rfl ?_
            refine ev_ialdT f_X12_reading (nx := 45) rfl (hI.wf.s rfl) l10 (by decide) u14 (by decide) rfl (fun w18 e18 => ?_)
            refine ev_jmp f_X12_reading (nx := 68) rfl rfl rfl ?_
            refine ev_inV2 f_X12_reading (nx := 71) (lo2 := [(0, .ref 69), (1, .int w18)]) rfl rfl rfl rfl f_X12_orNone (hI.wf.s rfl) rfl rfl rfl rfl rfl ?_
            refine ev_loc f_X12_orNone (nx := 1) rfl rfl rfl rfl ?_
            refine ev_ic f_X12_orNone (nx := 2) (v := -1) rfl (by decide) rfl ?_
            refine ev_if f_X12_orNone (t1 := 5) (t2 := 14) rfl rfl rfl (fun h19 => ?_) (fun h19 => ?_)
            · have u20 : w18.toInt ≤ (-1) := t_equ h19 (by decide : ((-1):Int32).toInt ≤ ((-1):Int))
              have l21 : (-1) ≤ w18.toInt := t_eql h19 (by decide : ((-1):Int) ≤ ((-1):Int32).toInt)
              refine ev_loc f_X12_orNone (nx := 6) rfl rfl rfl rfl ?_
              refine ev_bp f_X12_orNone (nx := 8) (v := 6) rfl (by decide) rfl ?_
              refine ev_inV2 f_X12_orNone (nx := 11) (lo2 := [(0, .ref 69), (1, .int 6)]) rfl rfl rfl rfl f_X12_refuse (hI.wf.s rfl) rfl rfl rfl rfl rfl ?_
              refine ev_loc f_X12_refuse (nx := 1) rfl rfl rfl rfl ?_
              refine ev_loc f_X12_refuse (nx := 2) rfl rfl rfl rfl ?_
              refine ev_putIT f_X12_refuse (nx := 5) rfl (hI.wf.s rfl) rfl rfl rfl (hI.put0 (hI.wf.s rfl) rfl rfl) (hX.upI rfl) (fun g22 e22 hI hX => ?_)
              refine ev_ic f_X12_refuse (nx := 6) (v := -1) rfl (by decide) rfl ?_
              refine ev_retK1 f_X12_refuse rfl rfl rfl ?_
              refine ev_jmp f_X12_orNone (nx := 19) rfl rfl rfl ?_
              refine ev_retK1 f_X12_orNone rfl rfl rfl ?_
              exact ev_ret f_X12_reading rfl rfl rfl ⟨_, _, _, rfl, hI, hX, ⟨_, rfl, (Int.le_trans (by decide : ((-2147483648):Int) ≤ (-1)) (by decide : ((-1):Int) ≤ ((-1):Int32).toInt)), (Int.le_trans (by decide : ((-1):Int32).toInt ≤ ((-1):Int)) (by decide : ((-1):Int) ≤ 2147483647)), (show ∀ L : s_RL, s_S3 gi L → s_LO L → ((0 ≤ ar1.toInt ∧ ar1.toInt < (L.length : Int) ∧ 0 ≤ ar2.toInt ∧ ar2.toInt ≤ 2) → ((-1) : Int) = s_rd L ar1.toNatClampNeg ar2.toInt) ∧ (¬ (0 ≤ ar1.toInt ∧ ar1.toInt < (L.length : Int) ∧ 0 ≤ ar2.toInt ∧ ar2.toInt ≤ 2) → ((-1) : Int) = -1) from (by
                                                            intro L h hL
                                                            obtain ⟨hn, hl⟩ := h
                                                            have hk : (gi 69 30).toInt = (L.length : Int) := hn
                                                            refine ⟨fun _ => ?_, fun h => absurd (show _ from ⟨by omega, by omega, by omega, by omega⟩) h⟩
                                                            have c1 := t_clamp (i := ar1) (by omega)
                                                            obtain ⟨t, ht⟩ := s_rd_g (L := L) (k := ar1.toNatClampNeg) (by omega)
                                                            obtain ⟨v1, v2, v3⟩ := hl _ t ht
                                                            obtain ⟨d0, d1, d2⟩ := s_rd_0 ht
                                                            have ho := hL _ t ht
                                                            have ew : w18.toInt = t.1 := by rw [e18]; exact v1
                                                            rw [show ar2.toInt = 0 by omega, d0, ← ew]
                                                            have k1 : (-1 : Int32).toInt = -1 := rfl
                                                            omega))⟩⟩
            · have r23 : w18.toInt ≠ (-1) := fun e => h19 (Int32.toInt_inj.mp (e.trans (by decide : ((-1):Int) = ((-1) : Int32).toInt)))
              refine ev_loc f_X12_orNone (nx := 15) rfl rfl rfl rfl ?_
              refine ev_loc f_X12_orNone (nx := 16) rfl rfl rfl rfl ?_
              refine ev_inV2 f_X12_orNone (nx := 19) (lo2 := [(0, .ref 69), (1, .int w18)]) rfl rfl rfl rfl f_X12_gives (hI.wf.s rfl) rfl rfl rfl rfl rfl ?_
              refine ev_loc f_X12_gives (nx := 1) rfl rfl rfl rfl ?_
              refine ev_ic f_X12_gives (nx := 2) (v := 0) rfl (by decide) rfl ?_
              refine ev_putIT f_X12_gives (nx := 5) rfl (hI.wf.s rfl) rfl rfl rfl (hI.put0 (hI.wf.s rfl) rfl rfl) (hX.upI rfl) (fun g24 e24 hI hX => ?_)
              refine ev_loc f_X12_gives (nx := 6) rfl rfl rfl rfl ?_
              refine ev_retK1 f_X12_gives rfl rfl rfl ?_
              refine ev_retK1 f_X12_orNone rfl rfl rfl ?_
              exact ev_ret f_X12_reading rfl rfl rfl ⟨_, _, _, rfl, hI, hX, ⟨_, rfl, (t_lo w18), (t_hi w18), (show ∀ L : s_RL, s_S3 gi L → s_LO L → ((0 ≤ ar1.toInt ∧ ar1.toInt < (L.length : Int) ∧ 0 ≤ ar2.toInt ∧ ar2.toInt ≤ 2) → w18.toInt = s_rd L ar1.toNatClampNeg ar2.toInt) ∧ (¬ (0 ≤ ar1.toInt ∧ ar1.toInt < (L.length : Int) ∧ 0 ≤ ar2.toInt ∧ ar2.toInt ≤ 2) → w18.toInt = -1) from (by
                                                            intro L h hL
                                                            obtain ⟨hn, hl⟩ := h
                                                            have hk : (gi 69 30).toInt = (L.length : Int) := hn
                                                            refine ⟨fun _ => ?_, fun h => absurd (show _ from ⟨by omega, by omega, by omega, by omega⟩) h⟩
                                                            have c1 := t_clamp (i := ar1) (by omega)
                                                            obtain ⟨t, ht⟩ := s_rd_g (L := L) (k := ar1.toNatClampNeg) (by omega)
                                                            obtain ⟨v1, v2, v3⟩ := hl _ t ht
                                                            obtain ⟨d0, d1, d2⟩ := s_rd_0 ht
                                                            have ho := hL _ t ht
                                                            have ew : w18.toInt = t.1 := by rw [e18]; exact v1
                                                            rw [show ar2.toInt = 0 by omega, d0, ← ew]))⟩⟩
          · have r25 : ar2.toInt ≠ 0 := fun e => h16 (Int32.toInt_inj.mp (e.trans (by decide : (0:Int) = (0 : Int32).toInt)))
            have l26 : 1 ≤ ar2.toInt := t_nel h16 l4 rfl rfl
            refine ev_loc f_X12_reading (nx := 49) rfl rfl rfl rfl ?_
            refine ev_ic f_X12_reading (nx := 50) (v := 1) rfl (by decide) rfl ?_
            refine ev_if f_X12_reading (t1 := 53) (t2 := 62) rfl rfl rfl (fun h27 => ?_) (fun h27 => ?_)
            · have u28 : ar2.toInt ≤ 1 := t_equ h27 (by decide : (1:Int32).toInt ≤ (1:Int))
              refine ev_loc f_X12_reading (nx := 54) rfl rfl rfl rfl ?_
              refine ev_getR f_X12_reading (nx := 57) rfl (hI.wf.s rfl) rfl rfl (hI.wf.r rfl) rfl rfl ?_
              refine ev_loc f_X12_reading (nx := 58) rfl rfl rfl rfl ?_
              refine ev_ialdT f_X12_reading (nx := 59) rfl (hI.wf.s rfl) l10 (by decide) u14 (by decide) rfl (fun w29 e29 => ?_)
              refine ev_jmp f_X12_reading (nx := 68) rfl rfl rfl ?_
              refine ev_inV2 f_X12_reading (nx := 71) (lo2 := [(0, .ref 69), (1, .int w29)]) rfl rfl rfl rfl f_X12_orNone (hI.wf.s rfl) rfl rfl rfl rfl rfl ?_
              refine ev_loc f_X12_orNone (nx := 1) rfl rfl rfl rfl ?_
              refine ev_ic f_X12_orNone (nx := 2) (v := -1) rfl (by decide) rfl ?_
              refine ev_if f_X12_orNone (t1 := 5) (t2 := 14) rfl rfl rfl (fun h30 => ?_) (fun h30 => ?_)
              · have u31 : w29.toInt ≤ (-1) := t_equ h30 (by decide : ((-1):Int32).toInt ≤ ((-1):Int))
                have l32 : (-1) ≤ w29.toInt := t_eql h30 (by decide : ((-1):Int) ≤ ((-1):Int32).toInt)
                refine ev_loc f_X12_orNone (nx := 6) rfl rfl rfl rfl ?_
                refine ev_bp f_X12_orNone (nx := 8) (v := 6) rfl (by decide) rfl ?_
                refine ev_inV2 f_X12_orNone (nx := 11) (lo2 := [(0, .ref 69), (1, .int 6)]) rfl rfl rfl rfl f_X12_refuse (hI.wf.s rfl) rfl rfl rfl rfl rfl ?_
                refine ev_loc f_X12_refuse (nx := 1) rfl rfl rfl rfl ?_
                refine ev_loc f_X12_refuse (nx := 2) rfl rfl rfl rfl ?_
                refine ev_putIT f_X12_refuse (nx := 5) rfl (hI.wf.s rfl) rfl rfl rfl (hI.put0 (hI.wf.s rfl) rfl rfl) (hX.upI rfl) (fun g33 e33 hI hX => ?_)
                refine ev_ic f_X12_refuse (nx := 6) (v := -1) rfl (by decide) rfl ?_
                refine ev_retK1 f_X12_refuse rfl rfl rfl ?_
                refine ev_jmp f_X12_orNone (nx := 19) rfl rfl rfl ?_
                refine ev_retK1 f_X12_orNone rfl rfl rfl ?_
                exact ev_ret f_X12_reading rfl rfl rfl ⟨_, _, _, rfl, hI, hX, ⟨_, rfl, (Int.le_trans (by decide : ((-2147483648):Int) ≤ (-1)) (by decide : ((-1):Int) ≤ ((-1):Int32).toInt)), (Int.le_trans (by decide : ((-1):Int32).toInt ≤ ((-1):Int)) (by decide : ((-1):Int) ≤ 2147483647)), (show ∀ L : s_RL, s_S3 gi L → s_LO L → ((0 ≤ ar1.toInt ∧ ar1.toInt < (L.length : Int) ∧ 0 ≤ ar2.toInt ∧ ar2.toInt ≤ 2) → ((-1) : Int) = s_rd L ar1.toNatClampNeg ar2.toInt) ∧ (¬ (0 ≤ ar1.toInt ∧ ar1.toInt < (L.length : Int) ∧ 0 ≤ ar2.toInt ∧ ar2.toInt ≤ 2) → ((-1) : Int) = -1) from (by
                                                            intro L h hL
                                                            obtain ⟨hn, hl⟩ := h
                                                            have hk : (gi 69 30).toInt = (L.length : Int) := hn
                                                            refine ⟨fun _ => ?_, fun h => absurd (show _ from ⟨by omega, by omega, by omega, by omega⟩) h⟩
                                                            have c1 := t_clamp (i := ar1) (by omega)
                                                            obtain ⟨t, ht⟩ := s_rd_g (L := L) (k := ar1.toNatClampNeg) (by omega)
                                                            obtain ⟨v1, v2, v3⟩ := hl _ t ht
                                                            obtain ⟨d0, d1, d2⟩ := s_rd_0 ht
                                                            have ho := hL _ t ht
                                                            have ew : w29.toInt = t.2.1 := by rw [e29]; exact v2
                                                            rw [show ar2.toInt = 1 by omega, d1, ← ew]
                                                            have k1 : (-1 : Int32).toInt = -1 := rfl
                                                            omega))⟩⟩
              · have r34 : w29.toInt ≠ (-1) := fun e => h30 (Int32.toInt_inj.mp (e.trans (by decide : ((-1):Int) = ((-1) : Int32).toInt)))
                refine ev_loc f_X12_orNone (nx := 15) rfl rfl rfl rfl ?_
                refine ev_loc f_X12_orNone (nx := 16) rfl rfl rfl rfl ?_
                refine ev_inV2 f_X12_orNone (nx := 19) (lo2 := [(0, .ref 69), (1, .int w29)]) rfl rfl rfl rfl f_X12_gives (hI.wf.s rfl) rfl rfl rfl rfl rfl ?_
                refine ev_loc f_X12_gives (nx := 1) rfl rfl rfl rfl ?_
                refine ev_ic f_X12_gives (nx := 2) (v := 0) rfl (by decide) rfl ?_
                refine ev_putIT f_X12_gives (nx := 5) rfl (hI.wf.s rfl) rfl rfl rfl (hI.put0 (hI.wf.s rfl) rfl rfl) (hX.upI rfl) (fun g35 e35 hI hX => ?_)
                refine ev_loc f_X12_gives (nx := 6) rfl rfl rfl rfl ?_
                refine ev_retK1 f_X12_gives rfl rfl rfl ?_
                refine ev_retK1 f_X12_orNone rfl rfl rfl ?_
                exact ev_ret f_X12_reading rfl rfl rfl ⟨_, _, _, rfl, hI, hX, ⟨_, rfl, (t_lo w29), (t_hi w29), (show ∀ L : s_RL, s_S3 gi L → s_LO L → ((0 ≤ ar1.toInt ∧ ar1.toInt < (L.length : Int) ∧ 0 ≤ ar2.toInt ∧ ar2.toInt ≤ 2) → w29.toInt = s_rd L ar1.toNatClampNeg ar2.toInt) ∧ (¬ (0 ≤ ar1.toInt ∧ ar1.toInt < (L.length : Int) ∧ 0 ≤ ar2.toInt ∧ ar2.toInt ≤ 2) → w29.toInt = -1) from (by
                                                            intro L h hL
                                                            obtain ⟨hn, hl⟩ := h
                                                            have hk : (gi 69 30).toInt = (L.length : Int) := hn
                                                            refine ⟨fun _ => ?_, fun h => absurd (show _ from ⟨by omega, by omega, by omega, by omega⟩) h⟩
                                                            have c1 := t_clamp (i := ar1) (by omega)
                                                            obtain ⟨t, ht⟩ := s_rd_g (L := L) (k := ar1.toNatClampNeg) (by omega)
                                                            obtain ⟨v1, v2, v3⟩ := hl _ t ht
                                                            obtain ⟨d0, d1, d2⟩ := s_rd_0 ht
                                                            have ho := hL _ t ht
                                                            have ew : w29.toInt = t.2.1 := by rw [e29]; exact v2
                                                            rw [show ar2.toInt = 1 by omega, d1, ← ew]))⟩⟩
            · have r36 : ar2.toInt ≠ 1 := fun e => h27 (Int32.toInt_inj.mp (e.trans (by decide : (1:Int) = (1 : Int32).toInt)))
              have l37 : 2 ≤ ar2.toInt := t_nel h27 l26 rfl rfl
              refine ev_loc f_X12_reading (nx := 63) rfl rfl rfl rfl ?_
              refine ev_getR f_X12_reading (nx := 66) rfl (hI.wf.s rfl) rfl rfl (hI.wf.r rfl) rfl rfl ?_
              refine ev_loc f_X12_reading (nx := 67) rfl rfl rfl rfl ?_
              refine ev_ialdT f_X12_reading (nx := 68) rfl (hI.wf.s rfl) l10 (by decide) u14 (by decide) rfl (fun w38 e38 => ?_)
              refine ev_inV2 f_X12_reading (nx := 71) (lo2 := [(0, .ref 69), (1, .int w38)]) rfl rfl rfl rfl f_X12_orNone (hI.wf.s rfl) rfl rfl rfl rfl rfl ?_
              refine ev_loc f_X12_orNone (nx := 1) rfl rfl rfl rfl ?_
              refine ev_ic f_X12_orNone (nx := 2) (v := -1) rfl (by decide) rfl ?_
              refine ev_if f_X12_orNone (t1 := 5) (t2 := 14) rfl rfl rfl (fun h39 => ?_) (fun h39 => ?_)
              · have u40 : w38.toInt ≤ (-1) := t_equ h39 (by decide : ((-1):Int32).toInt ≤ ((-1):Int))
                have l41 : (-1) ≤ w38.toInt := t_eql h39 (by decide : ((-1):Int) ≤ ((-1):Int32).toInt)
                refine ev_loc f_X12_orNone (nx := 6) rfl rfl rfl rfl ?_
                refine ev_bp f_X12_orNone (nx := 8) (v := 6) rfl (by decide) rfl ?_
                refine ev_inV2 f_X12_orNone (nx := 11) (lo2 := [(0, .ref 69), (1, .int 6)]) rfl rfl rfl rfl f_X12_refuse (hI.wf.s rfl) rfl rfl rfl rfl rfl ?_
                refine ev_loc f_X12_refuse (nx := 1) rfl rfl rfl rfl ?_
                refine ev_loc f_X12_refuse (nx := 2) rfl rfl rfl rfl ?_
                refine ev_putIT f_X12_refuse (nx := 5) rfl (hI.wf.s rfl) rfl rfl rfl (hI.put0 (hI.wf.s rfl) rfl rfl) (hX.upI rfl) (fun g42 e42 hI hX => ?_)
                refine ev_ic f_X12_refuse (nx := 6) (v := -1) rfl (by decide) rfl ?_
                refine ev_retK1 f_X12_refuse rfl rfl rfl ?_
                refine ev_jmp f_X12_orNone (nx := 19) rfl rfl rfl ?_
                refine ev_retK1 f_X12_orNone rfl rfl rfl ?_
                exact ev_ret f_X12_reading rfl rfl rfl ⟨_, _, _, rfl, hI, hX, ⟨_, rfl, (Int.le_trans (by decide : ((-2147483648):Int) ≤ (-1)) (by decide : ((-1):Int) ≤ ((-1):Int32).toInt)), (Int.le_trans (by decide : ((-1):Int32).toInt ≤ ((-1):Int)) (by decide : ((-1):Int) ≤ 2147483647)), (show ∀ L : s_RL, s_S3 gi L → s_LO L → ((0 ≤ ar1.toInt ∧ ar1.toInt < (L.length : Int) ∧ 0 ≤ ar2.toInt ∧ ar2.toInt ≤ 2) → ((-1) : Int) = s_rd L ar1.toNatClampNeg ar2.toInt) ∧ (¬ (0 ≤ ar1.toInt ∧ ar1.toInt < (L.length : Int) ∧ 0 ≤ ar2.toInt ∧ ar2.toInt ≤ 2) → ((-1) : Int) = -1) from (by
                                                            intro L h hL
                                                            obtain ⟨hn, hl⟩ := h
                                                            have hk : (gi 69 30).toInt = (L.length : Int) := hn
                                                            refine ⟨fun _ => ?_, fun h => absurd (show _ from ⟨by omega, by omega, by omega, by omega⟩) h⟩
                                                            have c1 := t_clamp (i := ar1) (by omega)
                                                            obtain ⟨t, ht⟩ := s_rd_g (L := L) (k := ar1.toNatClampNeg) (by omega)
                                                            obtain ⟨v1, v2, v3⟩ := hl _ t ht
                                                            obtain ⟨d0, d1, d2⟩ := s_rd_0 ht
                                                            have ho := hL _ t ht
                                                            have ew : w38.toInt = t.2.2 := by rw [e38]; exact v3
                                                            rw [show ar2.toInt = 2 by omega, d2, ← ew]
                                                            have k1 : (-1 : Int32).toInt = -1 := rfl
                                                            omega))⟩⟩
              · have r43 : w38.toInt ≠ (-1) := fun e => h39 (Int32.toInt_inj.mp (e.trans (by decide : ((-1):Int) = ((-1) : Int32).toInt)))
                refine ev_loc f_X12_orNone (nx := 15) rfl rfl rfl rfl ?_
                refine ev_loc f_X12_orNone (nx := 16) rfl rfl rfl rfl ?_
                refine ev_inV2 f_X12_orNone (nx := 19) (lo2 := [(0, .ref 69), (1, .int w38)]) rfl rfl rfl rfl f_X12_gives (hI.wf.s rfl) rfl rfl rfl rfl rfl ?_
                refine ev_loc f_X12_gives (nx := 1) rfl rfl rfl rfl ?_
                refine ev_ic f_X12_gives (nx := 2) (v := 0) rfl (by decide) rfl ?_
                refine ev_putIT f_X12_gives (nx := 5) rfl (hI.wf.s rfl) rfl rfl rfl (hI.put0 (hI.wf.s rfl) rfl rfl) (hX.upI rfl) (fun g44 e44 hI hX => ?_)
                refine ev_loc f_X12_gives (nx := 6) rfl rfl rfl rfl ?_
                refine ev_retK1 f_X12_gives rfl rfl rfl ?_
                refine ev_retK1 f_X12_orNone rfl rfl rfl ?_
                exact ev_ret f_X12_reading rfl rfl rfl ⟨_, _, _, rfl, hI, hX, ⟨_, rfl, (t_lo w38), (t_hi w38), (show ∀ L : s_RL, s_S3 gi L → s_LO L → ((0 ≤ ar1.toInt ∧ ar1.toInt < (L.length : Int) ∧ 0 ≤ ar2.toInt ∧ ar2.toInt ≤ 2) → w38.toInt = s_rd L ar1.toNatClampNeg ar2.toInt) ∧ (¬ (0 ≤ ar1.toInt ∧ ar1.toInt < (L.length : Int) ∧ 0 ≤ ar2.toInt ∧ ar2.toInt ≤ 2) → w38.toInt = -1) from (by
                                                            intro L h hL
                                                            obtain ⟨hn, hl⟩ := h
                                                            have hk : (gi 69 30).toInt = (L.length : Int) := hn
                                                            refine ⟨fun _ => ?_, fun h => absurd (show _ from ⟨by omega, by omega, by omega, by omega⟩) h⟩
                                                            have c1 := t_clamp (i := ar1) (by omega)
                                                            obtain ⟨t, ht⟩ := s_rd_g (L := L) (k := ar1.toNatClampNeg) (by omega)
                                                            obtain ⟨v1, v2, v3⟩ := hl _ t ht
                                                            obtain ⟨d0, d1, d2⟩ := s_rd_0 ht
                                                            have ho := hL _ t ht
                                                            have ew : w38.toInt = t.2.2 := by rw [e38]; exact v3
                                                            rw [show ar2.toInt = 2 by omega, d2, ← ew]))⟩⟩
        · have r45 : (gi 69 30).toInt ≤ ar1.toInt := Int32.le_iff_toInt_le.mp (t_nlt h12)
          refine ev_loc f_X12_reading (nx := 28) rfl rfl rfl rfl ?_
          refine ev_bp f_X12_reading (nx := 30) (v := 6) rfl (by decide) rfl ?_
          refine ev_inV2 f_X12_reading (nx := 33) (lo2 := [(0, .ref 69), (1, .int 6)]) rfl rfl rfl rfl f_X12_refuse (hI.wf.s rfl) rfl rfl rfl rfl rfl ?_
          refine ev_loc f_X12_refuse (nx := 1) rfl rfl rfl rfl ?_
          refine ev_loc f_X12_refuse (nx := 2) rfl rfl rfl rfl ?_
          refine ev_putIT f_X12_refuse (nx := 5) rfl (hI.wf.s rfl) rfl rfl rfl (hI.put0 (hI.wf.s rfl) rfl rfl) (hX.upI rfl) (fun g46 e46 hI hX => ?_)
          refine ev_ic f_X12_refuse (nx := 6) (v := -1) rfl (by decide) rfl ?_
          refine ev_retK1 f_X12_refuse rfl rfl rfl ?_
          exact ev_ret f_X12_reading rfl rfl rfl ⟨_, _, _, rfl, hI, hX, ⟨_, rfl, (Int.le_trans (by decide : ((-2147483648):Int) ≤ (-1)) (by decide : ((-1):Int) ≤ ((-1):Int32).toInt)), (Int.le_trans (by decide : ((-1):Int32).toInt ≤ ((-1):Int)) (by decide : ((-1):Int) ≤ 2147483647)), (show ∀ L : s_RL, s_S3 gi L → s_LO L → ((0 ≤ ar1.toInt ∧ ar1.toInt < (L.length : Int) ∧ 0 ≤ ar2.toInt ∧ ar2.toInt ≤ 2) → ((-1) : Int) = s_rd L ar1.toNatClampNeg ar2.toInt) ∧ (¬ (0 ≤ ar1.toInt ∧ ar1.toInt < (L.length : Int) ∧ 0 ≤ ar2.toInt ∧ ar2.toInt ≤ 2) → ((-1) : Int) = -1) from (by
                                                            intro L h hL
                                                            obtain ⟨hn, hl⟩ := h
                                                            have hk : (gi 69 30).toInt = (L.length : Int) := hn
                                                            exact ⟨fun h => absurd h (by omega), fun _ => rfl⟩))⟩⟩
    · have l47 : 3 ≤ ar2.toInt := t_ltl (t_nle h5) (by decide : (2:Int) ≤ (2:Int32).toInt) rfl
      refine ev_loc f_X12_reading (nx := 10) rfl rfl rfl rfl ?_
      refine ev_ic f_X12_reading (nx := 11) (v := 1) rfl (by decide) rfl ?_
      refine ev_inV2 f_X12_reading (nx := 14) (lo2 := [(0, .ref 69), (1, .int 1)]) rfl rfl rfl rfl f_X12_refuse (hI.wf.s rfl) rfl rfl rfl rfl rfl ?_
      refine ev_loc f_X12_refuse (nx := 1) rfl rfl rfl rfl ?_
      refine ev_loc f_X12_refuse (nx := 2) rfl rfl rfl rfl ?_
      refine ev_putIT f_X12_refuse (nx := 5) rfl (hI.wf.s rfl) rfl rfl rfl (hI.put0 (hI.wf.s rfl) rfl rfl) (hX.upI rfl) (fun g48 e48 hI hX => ?_)
      refine ev_ic f_X12_refuse (nx := 6) (v := -1) rfl (by decide) rfl ?_
      refine ev_retK1 f_X12_refuse rfl rfl rfl ?_
      exact ev_ret f_X12_reading rfl rfl rfl ⟨_, _, _, rfl, hI, hX, ⟨_, rfl, (Int.le_trans (by decide : ((-2147483648):Int) ≤ (-1)) (by decide : ((-1):Int) ≤ ((-1):Int32).toInt)), (Int.le_trans (by decide : ((-1):Int32).toInt ≤ ((-1):Int)) (by decide : ((-1):Int) ≤ 2147483647)), (show ∀ L : s_RL, s_S3 gi L → s_LO L → ((0 ≤ ar1.toInt ∧ ar1.toInt < (L.length : Int) ∧ 0 ≤ ar2.toInt ∧ ar2.toInt ≤ 2) → ((-1) : Int) = s_rd L ar1.toNatClampNeg ar2.toInt) ∧ (¬ (0 ≤ ar1.toInt ∧ ar1.toInt < (L.length : Int) ∧ 0 ≤ ar2.toInt ∧ ar2.toInt ≤ 2) → ((-1) : Int) = -1) from (by
                                                            intro L h hL
                                                            obtain ⟨hn, hl⟩ := h
                                                            have hk : (gi 69 30).toInt = (L.length : Int) := hn
                                                            exact ⟨fun h => absurd h (by omega), fun _ => rfl⟩))⟩⟩
/-! ===== the READINGS that were told last are kept alike; readings, reading: the answers are alike ===== -/
section RLO
variable {D : s_D} {x : Int64} {a b e p : Int} {L L2 : s_RL} {t : Int × Int × Int}
theorem s_LO_n : s_LO [] := fun k t h => absurd h (by intro h2; cases h2)
theorem s_LO_c (h : s_tO t) (hl : s_LO L) : s_LO (t :: L) := by
  intro k t' hk
  cases k with
  | zero => exact Option.some.inj hk ▸ h
  | succ k => exact hl k t' hk
theorem s_LO_a (h : s_LO L) (h2 : s_LO L2) : s_LO (L ++ L2) := by
  intro k t hk
  by_cases hl : k < L.length
  · rw [List.getElem?_append_left hl] at hk; exact h k t hk
  · rw [List.getElem?_append_right (by omega)] at hk; exact h2 _ t hk
theorem s_rE_O (ha : 0 ≤ a) (hb : 0 ≤ b) (hb5 : b ≤ 5) : ∀ (m : Nat) (e : Int), 0 ≤ e → s_LO (s_rE D x a b m e)
  | 0, _, _ => s_LO_n
  | m + 1, e, he => by
    have h1 := s_rE_O ha hb hb5 m (e + 1) (by omega)
    show s_LO (s_if (s_bw D a b e = x) _ _)
    by_cases h : s_bw D a b e = x
    · rw [s_ifT h]; exact s_LO_c ⟨ha, Or.inr ⟨hb, hb5, he⟩⟩ h1
    · rw [s_ifF h]; exact h1
theorem s_lb_n : 0 ≤ s_lb a b := by
  unfold s_lb
  by_cases h : b < a
  · rw [if_pos h]; decide
  · rw [if_neg h]; decide
theorem s_rB_O (ha : 0 ≤ a) : ∀ (m : Nat) (b : Int), 0 ≤ b → b + (m : Int) ≤ 6 → s_LO (s_rB D x a m b)
  | 0, _, _, _ => s_LO_n
  | m + 1, b, hb, h6 => s_LO_a (s_rE_O ha hb (by omega) _ _ s_lb_n) (s_rB_O ha m (b + 1) (by omega) (by omega))
theorem s_rA_O (h6 : ((D 0).toNat : Int) ≤ 6) : ∀ (m : Nat) (a : Int), 0 ≤ a → s_LO (s_rA D x m a)
  | 0, _, _ => s_LO_n
  | m + 1, a, ha => s_LO_a (s_rB_O ha _ 0 (by omega) (by omega)) (s_rA_O h6 m (a + 1) (by omega))
theorem s_rP_O : ∀ (m : Nat) (p : Int), 0 ≤ p → s_LO (s_rP D x m p)
  | 0, _, _ => s_LO_n
  | m + 1, p, hp => by
    have h1 := s_rP_O m (p + 1) (by omega)
    show s_LO (s_if (s_hd D p = x) _ _)
    by_cases h : s_hd D p = x
    · rw [s_ifT h]; exact s_LO_c ⟨hp, Or.inl ⟨rfl, rfl⟩⟩ h1
    · rw [s_ifF h]; exact h1
theorem s_rL_O (h6 : D 0 ≤ 6) : s_LO (s_rL D x) := s_LO_a (s_rP_O _ 0 (by decide)) (s_rA_O (by omega) _ 0 (by decide))
end RLO
noncomputable def t_RG (g : Nat → Nat → Int32) : Prop := ∃ L, s_S1 g L ∧ s_S3 g L ∧ s_LO L
noncomputable def t_LEr (c : Nat) (sh : List (Nat ⊕ (Nat × Nat))) (gi : Nat → Nat → Int32) (gl : Nat → Nat → Int64) (gr : Nat → Nat → Value) : Prop := t_LD c sh gi gl gr ∧ t_RG gi
noncomputable def t_rg1 (w : List (Nat × Nat)) : Bool := t_un w (0, 14) && t_nc w 21
noncomputable def t_rg3 (w : List (Nat × Nat)) : Bool := t_un w (69, 30) && (t_nc w 81 && (t_nc w 82 && t_nc w 83))
section RGS
variable {sh : List (Nat ⊕ (Nat × Nat))} {gi g1 g2 : Nat → Nat → Int32} {gl l1 l2 : Nat → Nat → Int64} {gr r1 r2 : Nat → Nat → Value} {w1 w2 : List (Nat × Nat)} {A A2 : Int32} {Y : Int64} {x1 x2 : Int32} {L : s_RL}
theorem s_S1.fr (h : s_S1 gi L) (f : t_F w1 gi gl gr g1 l1 r1) (hw : t_rg1 w1 = true) : s_S1 g1 L := by
  unfold t_rg1 at hw
  simp only [Bool.and_eq_true] at hw
  exact h.cg (f 0 14 (by decide) (t_un_ok hw.1)).1 (t_F_nc f hw.2 (by decide))
theorem s_S3.fr (h : s_S3 gi L) (f : t_F w1 gi gl gr g1 l1 r1) (hw : t_rg3 w1 = true) : s_S3 g1 L := by
  unfold t_rg3 at hw
  simp only [Bool.and_eq_true] at hw
  exact h.cg (f 69 30 (by decide) (t_un_ok hw.1)).1 (t_F_nc f hw.2.1 (by decide)) (t_F_nc f hw.2.2.1 (by decide)) (t_F_nc f hw.2.2.2 (by decide))
theorem t_RG_fr (hG : t_RG gi) (f1 : t_F w1 gi gl gr g1 l1 r1) (h : (t_rg1 w1 && t_rg3 w1) = true) : t_RG g1 := by
  obtain ⟨L, a, b, c⟩ := hG
  rw [Bool.and_eq_true] at h
  exact ⟨L, a.fr f1 h.1, b.fr f1 h.2, c⟩
theorem t_RG_same (hG : t_RG gi) (f1 : t_F w1 gi gl gr g1 l1 r1) (f2 : t_F w2 g1 l1 r1 g2 l2 r2) (h : ((t_rg1 w1 && t_rg3 w1) && (t_rg1 w2 && t_rg3 w2)) = true) : t_RG g2 := by
  rw [Bool.and_eq_true] at h
  exact t_RG_fr (t_RG_fr hG f1 h.1) f2 h.2
theorem t_RG_read (hG : t_RG gi) (hD : t_DR sh.length gi gl gr) (f1 : t_F w1 gi gl gr g1 l1 r1) (f2 : t_F w2 g1 l1 r1 g2 l2 r2) (h70 : t_nc w1 70 = true) (h3 : t_rg3 w1 = true) (h1 : t_rg1 w2 = true) (q1 : Q_d_readings gi gl gr Y x1 g1 l1 r1) (q2 : Q_e_readings g1 l1 r1 Y x2 g2 l2 r2) : t_RG g2 := by
  obtain ⟨u, hu, D, hb, hv, hl, hc, hm⟩ := hD.1
  have r70 : g1 70 = gi 70 := t_F_nc f1 h70 (by decide)
  have hm2 : t_ME 0 g1 D := by unfold t_ME; rw [r70]; exact hm
  have k1 := q1 u D hu hl hc hb hv.1
  have k2 := q2 D hm2 hb
  by_cases hy : 1 ≤ Y.toInt
  · exact ⟨_, (k1.1 hy).1.fr f2 h1, (k2.1 hy).1, s_rL_O hb.1.2⟩
  · obtain ⟨L, a, b, c⟩ := hG
    exact ⟨L, ((k1.2 (by omega)).2 L a).fr f2 h1, (k2.2 (by omega)).2 L (b.fr f1 h3), c⟩
theorem t_L_readings (hD : t_DR sh.length gi gl gr) (f1 : t_F w1 gi gl gr g1 l1 r1) (h70 : t_nc w1 70 = true) (q1 : Q_d_readings gi gl gr Y x1 g1 l1 r1) (q2 : Q_e_readings g1 l1 r1 Y x2 g2 l2 r2) : x1 = x2 := by
  obtain ⟨u, hu, D, hb, hv, hl, hc, hm⟩ := hD.1
  have r70 : g1 70 = gi 70 := t_F_nc f1 h70 (by decide)
  have hm2 : t_ME 0 g1 D := by unfold t_ME; rw [r70]; exact hm
  have k1 := q1 u D hu hl hc hb hv.1
  have k2 := q2 D hm2 hb
  apply Int32.toInt_inj.mp
  by_cases hy : 1 ≤ Y.toInt
  · rw [(k1.1 hy).2, (k2.1 hy).2]
  · rw [(k1.2 (by omega)).1, (k2.2 (by omega)).1]
theorem t_L_reading (hG : t_RG gi) (f1 : t_F w1 gi gl gr g1 l1 r1) (h3 : t_rg3 w1 = true) (q1 : Q_d_reading gi gl gr A A2 x1 g1 l1 r1) (q2 : Q_e_reading g1 l1 r1 A A2 x2 g2 l2 r2) : x1 = x2 := by
  obtain ⟨L, a, b, c⟩ := hG
  have k1 := q1 L a c
  have k2 := q2 L (b.fr f1 h3) c
  apply Int32.toInt_inj.mp
  by_cases hin : 0 ≤ A.toInt ∧ A.toInt < (L.length : Int) ∧ 0 ≤ A2.toInt ∧ A2.toInt ≤ 2
  · rw [k1.1 hin, k2.1 hin]
  · rw [k1.2 hin, k2.2 hin]
end RGS
theorem W1_Nr {sh : List (Nat ⊕ (Nat × Nat))} {gi : Nat → Nat → Int32} {gl : Nat → Nat → Int64} {gr : Nat → Nat → Value} (hR : x_R W1 (sh, gi, gl, gr)) : t_RG gi := by
  have h : gi 69 30 = x_cI w1_c69 30 := ((x_gc_R hR (c := w1_c69) rfl).2.2.2 _ (by decide)).1
  have h0 : gi 0 14 = x_cI w1_c0 14 := ((x_gc_R hR (c := w1_c0) rfl).2.2.2 _ (by decide)).1
  refine ⟨[], s_S1_nil ?_, ⟨?_, fun k t hk => absurd hk (by intro h2; cases h2)⟩, s_LO_n⟩
  · rw [h0]; decide +kernel
  · rw [h]; decide +kernel
/-! ===== the first BEAT that none sounds: how many noughts a number ends in ===== -/
noncomputable def s_tz (x : Int) (t : Nat) : Prop := ∃ q : Int, x = 2 ^ t * (2 * q + 1)
noncomputable def s_mz (x : Int) (t : Nat) : Prop := ∃ q : Int, x = 2 ^ t * q
/-- all that the first k PORTS sound -/
noncomputable def s_oa (D : s_D) : Nat → Int64
  | 0 => 0
  | k + 1 => s_oa D k ||| s_hd D (k : Int)
section SIL
variable {D : s_D} {x y z z1 z2 k k' : Int32} {t n : Nat} {a : Int} {v v' w : Int64}
theorem s_oa_s (hv : v = s_oa D k.toNatClampNeg) (k0 : 0 ≤ k.toInt) (hw : w = s_hd D k.toInt) (eo : v' = v ||| w) (kz : k'.toInt = k.toInt + 1) : v' = s_oa D k'.toNatClampNeg := by
  have c1 := t_clamp (i := k) k0
  have c2 := t_clamp (i := k') (by omega)
  rw [show k'.toNatClampNeg = k.toNatClampNeg + 1 by omega]
  show v' = s_oa D k.toNatClampNeg ||| s_hd D ((k.toNatClampNeg : Nat) : Int)
  rw [c1, eo, hv, hw]
theorem s_2p (t : Nat) : (0 : Int) < 2 ^ t := Int.pow_pos (by decide)
theorem s_2pm {t u : Nat} (h : t ≤ u) : (2 : Int) ^ t ≤ 2 ^ u := by
  have h1 : (2 : Nat) ^ t ≤ 2 ^ u := Nat.pow_le_pow_right (by decide) h
  exact_mod_cast h1
theorem s_2ps {t u : Nat} (h : t ≤ u) : (2 : Int) ^ u = 2 ^ t * 2 ^ (u - t) := by
  rw [← Int.pow_add]; congr 1; omega
theorem s_tz_m (m : Int) (h : s_tz a t) (ht : t ≤ 31) : s_tz (a + 4294967296 * m) t := by
  obtain ⟨q, e⟩ := h
  refine ⟨q + 2 ^ (31 - t) * m, ?_⟩
  have h1 : (4294967296 : Int) = 2 ^ t * (2 * 2 ^ (31 - t)) := by
    have h2 := s_2ps (t := t) (u := 31) ht
    have h3 : (2 : Int) ^ 31 = 2147483648 := by decide
    rw [h3] at h2
    rw [Int.mul_left_comm, ← h2]; rfl
  rw [e, h1]
  simp only [Int.mul_add, Int.mul_assoc, Int.add_assoc, Int.mul_one]
  omega
theorem s_nat_tz {X Q : Nat} (hx : X = 2 ^ t * (2 * Q + 1)) (hl : X < 2 ^ 32) (ht : t ≤ 31) : (2 ^ 32 - (X + 1)) &&& (X - 1) = 2 ^ t - 1 := by
  have hp : 0 < 2 ^ t := Nat.two_pow_pos t
  have h1 : X - 1 = 2 ^ t * (2 * Q) + (2 ^ t - 1) := by rw [hx, Nat.mul_add]; omega
  have h2 : X = 2 ^ t * (2 * Q + 1) + 0 := by rw [hx]; rfl
  apply Nat.eq_of_testBit_eq
  intro i
  rw [Nat.testBit_and, Nat.testBit_two_pow_sub_succ hl, Nat.testBit_two_pow_sub_one]
  have e1 : (X - 1).testBit i = if i < t then (2 ^ t - 1).testBit i else (2 * Q).testBit (i - t) := by
    rw [h1]; exact Nat.testBit_two_pow_mul_add _ (by omega) i
  have e2 : X.testBit i = if i < t then (0 : Nat).testBit i else (2 * Q + 1).testBit (i - t) := by
    conv => lhs; rw [h2]
    exact Nat.testBit_two_pow_mul_add _ hp i
  rw [e1, e2]
  by_cases hi : i < t
  · rw [if_pos hi, if_pos hi, Nat.testBit_two_pow_sub_one]
    simp [hi, show i < 32 by omega]
  · rw [if_neg hi, if_neg hi]
    cases hj : i - t with
    | zero => simp [hi]
    | succ j =>
      rw [Nat.testBit_succ, Nat.testBit_succ, show (2 * Q + 1) / 2 = Q by omega, show 2 * Q / 2 = Q by omega]
      cases Q.testBit j <;> simp [hi]
theorem s_tz_y (h : s_tz x.toInt t) (ht : t ≤ 31) (e1 : z1 = x ^^^ (-1)) (e2 : z2 = x - 1) (e3 : y = z1 &&& z2) : y.toInt = 2 ^ t - 1 := by
  have hX : (x.toBitVec.toNat : Int) = x.toInt + 4294967296 * (if x.toInt < 0 then 1 else 0) := by
    have h1 : x.toInt = x.toBitVec.toInt := rfl
    have h2 := x.toBitVec.isLt
    have h3 : x.toBitVec.toInt = if 2 * x.toBitVec.toNat < 2 ^ 32 then (x.toBitVec.toNat : Int) else (x.toBitVec.toNat : Int) - (2 ^ 32 : Nat) := BitVec.toInt_eq_toNat_cond _
    by_cases hc : 2 * x.toBitVec.toNat < 2 ^ 32
    · rw [if_pos hc] at h3; rw [if_neg (by omega)]; omega
    · rw [if_neg hc] at h3; rw [if_pos (by omega)]; omega
  have hT : s_tz (x.toBitVec.toNat : Int) t := by rw [hX]; exact s_tz_m _ h ht
  obtain ⟨q, hq⟩ := hT
  have hp := s_2p t
  have hq0 : 0 ≤ 2 * q + 1 := by
    have hh : (0 : Int) ≤ 2 ^ t * (2 * q + 1) := by rw [← hq]; exact Int.natCast_nonneg _
    exact Int.nonneg_of_mul_nonneg_right hh hp
  have hN : x.toBitVec.toNat = 2 ^ t * (2 * q.toNat + 1) := by
    have e : ((2 ^ t * (2 * q.toNat + 1) : Nat) : Int) = 2 ^ t * (2 * q + 1) := by
      have hqn : (q.toNat : Int) = q := Int.toNat_of_nonneg (by omega)
      push_cast
      rw [hqn]
    exact Int.ofNat.inj (show ((x.toBitVec.toNat : Nat) : Int) = _ from hq.trans e.symm)
  have hl := x.toBitVec.isLt
  have hX1 : 1 ≤ x.toBitVec.toNat := by
    rw [hN]
    exact Nat.le_trans (Nat.two_pow_pos t) (Nat.le_mul_of_pos_right _ (by omega))
  have b1 : z1.toBitVec.toNat = 2 ^ 32 - (x.toBitVec.toNat + 1) := by
    rw [e1]
    show (x.toBitVec ^^^ BitVec.allOnes 32).toNat = _
    rw [BitVec.xor_allOnes, BitVec.toNat_not]; omega
  have b2 : z2.toBitVec.toNat = x.toBitVec.toNat - 1 := by
    rw [e2, Int32.toBitVec_sub, BitVec.toNat_sub]
    have h1 : (1 : Int32).toBitVec.toNat = 1 := rfl
    rw [h1]; omega
  have b3 : y.toBitVec.toNat = 2 ^ t - 1 := by
    rw [e3, Int32.toBitVec_and, BitVec.toNat_and, b1, b2]
    exact s_nat_tz hN hl ht
  have hlt : (2 : Nat) ^ t ≤ 2 ^ 31 := Nat.pow_le_pow_right (by decide) ht
  have hp2 : 0 < (2 : Nat) ^ t := Nat.two_pow_pos t
  show y.toBitVec.toInt = _
  rw [BitVec.toInt_eq_toNat_of_lt (by rw [b3]; omega), b3]
  have e : ((2 ^ t - 1 : Nat) : Int) = ((2 ^ t : Nat) : Int) - 1 := by omega
  rw [e]; push_cast; rfl
theorem s_tz_s {y z : Int32} (h : y.toInt = 2 ^ t - 1) (hk : (2 : Int) ^ n < y.toInt) (hz : z.toInt = y.toInt / 2 ^ n) : n < t ∧ z.toInt = 2 ^ (t - n) - 1 := by
  have hn : n < t := by
    rcases Nat.lt_or_ge n t with hh | hh
    · exact hh
    · have := s_2pm hh; omega
  refine ⟨hn, ?_⟩
  have h1 := s_2ps (Nat.le_of_lt hn)
  have h2 := s_2p n
  have h3 := s_2p (t - n)
  rw [hz, h]
  refine ((Int.ediv_emod_unique (r := 2 ^ n - 1) (q := 2 ^ (t - n) - 1) h2).mpr ⟨?_, by omega, by omega⟩).1
  rw [Int.mul_sub, ← h1]; omega
theorem s_tz_f (h : y.toInt = 2 ^ t - 1) (hy : y.toInt ≤ 4) (h0 : 0 < y.toInt) : (t = 1 ∧ y.toInt = 1) ∨ (t = 2 ∧ y.toInt = 3) := by
  match t, h with
  | 0, h => have h : y.toInt = 1 - 1 := h; omega
  | 1, h => exact Or.inl ⟨rfl, h⟩
  | 2, h => exact Or.inr ⟨rfl, h⟩
  | u + 3, h =>
    have h1 := s_2pm (t := 3) (u := u + 3) (by omega)
    have h2 : (2 : Int) ^ 3 = 8 := by decide
    omega
theorem s_tz_0 (h : y.toInt = 2 ^ t - 1) (hy : y.toInt ≤ 0) : t = 0 ∧ y = 0 := by
  have h1 := s_2p t
  have h2 : y = 0 := Int32.toInt_inj.mp (show y.toInt = 0 by omega)
  refine ⟨?_, h2⟩
  rcases Nat.eq_zero_or_pos t with hh | hh
  · exact hh
  · have h3 := s_2pm (t := 1) (u := t) hh
    have h4 : (2 : Int) ^ 1 = 2 := by decide
    omega
theorem s_tz_ne (h : s_tz a t) : a ≠ 0 := by
  obtain ⟨q, e⟩ := h
  intro h0
  have hp := s_2p t
  rw [h0] at e
  rcases Int.mul_eq_zero.mp e.symm with hh | hh <;> omega
/-- the lower half, the upper half -/
theorem s_bm (a : Int) : ∃ m : Int, Int.bmod a 4294967296 = a + 4294967296 * m := ⟨-(Int.bdiv a 4294967296), by have := Int.bmod_add_bdiv a 4294967296; omega⟩
theorem s_tz_lo (h : s_tz a t) (ht : t ≤ 31) : s_tz (Int.bmod a 4294967296) t := by
  obtain ⟨m, e⟩ := s_bm a
  rw [e]; exact s_tz_m m h ht
theorem s_tz_hi (h : s_tz a t) (h32 : 32 ≤ t) (ht : t ≤ 63) : s_tz (Int.bmod (a / 4294967296) 4294967296) (t - 32) := by
  refine s_tz_lo ?_ (by omega)
  obtain ⟨q, e⟩ := h
  refine ⟨q, ?_⟩
  have h1 := s_2ps h32
  have h2 : (2 : Int) ^ 32 = 4294967296 := by decide
  rw [e, h1, h2, Int.mul_assoc, Int.mul_ediv_cancel_left _ (by decide)]
theorem s_tz_z (h : s_tz a t) (h32 : 32 ≤ t) : Int.bmod a 4294967296 = 0 := by
  obtain ⟨q, e⟩ := h
  have h1 := s_2ps h32
  have h2 : (2 : Int) ^ 32 = 4294967296 := by decide
  rw [e, h1, h2, Int.mul_assoc]
  have h3 := Int.bmod_def (4294967296 * (2 ^ (t - 32) * (2 * q + 1))) 4294967296
  rw [h3]
  have h4 : 4294967296 * (2 ^ (t - 32) * (2 * q + 1)) % ((4294967296 : Nat) : Int) = 0 := Int.mul_emod_right _ _
  rw [h4]; decide
theorem s_us32 {x z : Int64} {c : UInt64} (e : z = (x.toUInt64 >>> c).toInt64) (hc : (c.toBitVec % 64).toNat = 32) {y : Int32} (ey : y = z.toInt32) : y.toInt = Int.bmod (x.toInt / 4294967296) 4294967296 := by
  rw [t_l2iB ey]
  have hx : x.toInt = x.toBitVec.toInt := rfl
  have hl := x.toBitVec.isLt
  have hn : z.toBitVec.toNat = x.toBitVec.toNat / 2 ^ 32 := by
    rw [e, ← hc]
    show (x.toBitVec >>> (c.toBitVec % 64)).toNat = _
    show (x.toBitVec >>> (c.toBitVec % 64).toNat).toNat = _
    rw [BitVec.toNat_ushiftRight, Nat.shiftRight_eq_div_pow]
  have hz : z.toInt = (z.toBitVec.toNat : Int) := by
    show z.toBitVec.toInt = _
    rw [BitVec.toInt_eq_toNat_of_lt (by rw [hn]; omega)]
  rw [hz, hn, hx, BitVec.toInt_eq_toNat_cond]
  have h3 : ((x.toBitVec.toNat / 2 ^ 32 : Nat) : Int) = (x.toBitVec.toNat : Int) / 4294967296 := by omega
  rw [h3]
  split
  · rfl
  · have h4 : ((x.toBitVec.toNat : Int) - ((2 ^ 64 : Nat) : Int)) / 4294967296 = (x.toBitVec.toNat : Int) / 4294967296 + 4294967296 * (-1) := by omega
    rw [h4]
    generalize (x.toBitVec.toNat : Int) / 4294967296 = b
    rw [Int.bmod_def, Int.bmod_def]
    have h5 : (b + 4294967296 * (-1)) % ((4294967296 : Nat) : Int) = b % ((4294967296 : Nat) : Int) := by omega
    rw [h5]
end SIL
/-! ===== one after another (the other side) ===== -/
section SIM
variable {y k k' : Int32} {c : Int32} {a z1 z2 : Int64} {t : Nat}
theorem s_mz_0 (b : Int) : s_mz b 0 := ⟨b, by simp⟩
theorem s_shk (h0 : 0 ≤ k.toInt) (h1 : k.toInt ≤ 33) (e1 : z1 = a >>> (k.toInt64 &&& 63)) : z1.toInt = a.toInt / 2 ^ k.toNatClampNeg := by
  have key : ∀ n : Nat, n < 34 → (((Int32.ofNat n).toInt64 &&& 63).toBitVec.smod 64#64).toNat = n := by decide
  have ck := t_clamp (i := k) h0
  have hk : k = Int32.ofNat k.toNatClampNeg := by
    apply Int32.toInt_inj.mp
    rw [Int32.toInt_ofNat_of_lt (by omega)]; omega
  have h2 := key k.toNatClampNeg (by omega)
  rw [← hk] at h2
  rw [e1, t_shr h2, Int.shiftRight_eq_div_pow]
  norm_cast
theorem s_odd {z : Int64} (e2 : z2 = z &&& 1) : (z2 = 1 ↔ z.toInt % 2 = 1) := by
  have h1 : z2.toBitVec.toNat = z.toBitVec.toNat % 2 := by
    rw [e2, Int64.toBitVec_and, BitVec.toNat_and]
    show z.toBitVec.toNat &&& 1 = _
    exact Nat.and_one_is_mod _
  have h2 : z.toInt % 2 = ((z.toBitVec.toNat % 2 : Nat) : Int) := by
    show z.toBitVec.toInt % 2 = _
    rw [BitVec.toInt_eq_toNat_cond]
    split <;> omega
  rw [h2, ← h1]
  constructor
  · intro h; rw [h]; rfl
  · intro h
    apply Int64.toBitVec_inj.mp
    apply BitVec.eq_of_toNat_eq
    show z2.toBitVec.toNat = 1
    omega
theorem s_mz_s (h : s_mz (-1 - a.toInt) k.toNatClampNeg) (h0 : 0 ≤ k.toInt) (h1 : k.toInt ≤ 33) (e1 : z1 = a >>> (k.toInt64 &&& 63)) (e2 : z2 = z1 &&& 1) : (z2 = 1 → s_mz (-1 - a.toInt) (k.toNatClampNeg + 1)) ∧ (¬ z2 = 1 → s_tz (-1 - a.toInt) k.toNatClampNeg) := by
  have hs := s_shk h0 h1 e1
  have ho := s_odd e2
  obtain ⟨q, hq⟩ := h
  have hp := s_2p k.toNatClampNeg
  have hd : a.toInt / 2 ^ k.toNatClampNeg = -q - 1 := by
    refine ((Int.ediv_emod_unique (r := 2 ^ k.toNatClampNeg - 1) (q := -q - 1) hp).mpr ⟨?_, by omega, by omega⟩).1
    rw [Int.mul_sub, Int.mul_neg, ← hq]; omega
  rw [hs, hd] at ho
  refine ⟨fun h => ?_, fun h => ?_⟩
  · have h2 := ho.mp h
    refine ⟨q / 2, ?_⟩
    rw [hq, Int.pow_succ, Int.mul_assoc]
    congr 1; omega
  · have h2 : ¬ (-q - 1) % 2 = 1 := fun hh => h (ho.mpr hh)
    refine ⟨q / 2, ?_⟩
    rw [hq]
    congr 1; omega
end SIM
theorem s_xm {a z : Int64} (e : z = a ^^^ (-1)) : z.toInt = -1 - a.toInt := by
  have hb : z.toBitVec = ~~~ a.toBitVec := by
    rw [e]
    show a.toBitVec ^^^ BitVec.allOnes 64 = _
    rw [BitVec.xor_allOnes]
  show z.toBitVec.toInt = -1 - a.toBitVec.toInt
  rw [hb, BitVec.toInt_not]
  have hl := a.toBitVec.isLt
  rw [BitVec.toInt_eq_toNat_cond, Int.bmod_def]
  split <;> omega
/-! ===== printed by riv.py: silent ===== -/
noncomputable def wl_j_tz : List (Nat × Nat) := []
noncomputable def Q_j_tz (gi : Nat → Nat → Int32) (gl : Nat → Nat → Int64) (gr : Nat → Nat → Value) (ar0 : Int32) : Int32 → (Nat → Nat → Int32) → (Nat → Nat → Int64) → (Nat → Nat → Value) → Prop := fun (v : Int32) (gi2 : Nat → Nat → Int32) (gl2 : Nat → Nat → Int64) (gr2 : Nat → Nat → Value) => ∀ t : Nat, t ≤ 31 → s_tz ar0.toInt t → v.toInt = (t : Int)
theorem c_j_tz {X : x_Ext} {d : Nat} {sh : List (Nat ⊕ (Nat × Nat))} {gi : Nat → Nat → Int32} {gl : Nat → Nat → Int64} {gr : Nat → Nat → Value} (hI : t_I sh gi gr) (ar0 : Int32) : x_Me X (d + 1) n_J6_numberOfTrailingZeros_0f7a4 [.int ar0] (sh, gi, gl, gr) (t_PI wl_j_tz sh gi gl gr (-2147483648) 2147483647 (Q_j_tz gi gl gr ar0)) := by
  have hX : t_X wl_j_tz sh gi gl gr gi gl gr := t_X.rf
  refine me_s f_J6_numberOfTrailingZeros_0f7a4 rfl rfl ?_
  refine ev_loc f_J6_numberOfTrailingZeros_0f7a4 (nx := 1) rfl rfl rfl rfl ?_
  refine ev_ic f_J6_numberOfTrailingZeros_0f7a4 (nx := 2) (v := -1) rfl (by decide) rfl ?_
  refine ev_anyIE f_J6_numberOfTrailingZeros_0f7a4 (nx := 3) rfl rfl rfl rfl (fun z1 e1 => ?_)
  refine ev_loc f_J6_numberOfTrailingZeros_0f7a4 (nx := 4) rfl rfl rfl rfl ?_
  refine ev_ic f_J6_numberOfTrailingZeros_0f7a4 (nx := 5) (v := 1) rfl (by decide) rfl ?_
  refine ev_anyIE f_J6_numberOfTrailingZeros_0f7a4 (nx := 6) rfl rfl rfl rfl (fun z2 e2 => ?_)
  refine ev_anyIE f_J6_numberOfTrailingZeros_0f7a4 (nx := 7) rfl rfl rfl rfl (fun z3 e3 => ?_)
  refine ev_loc f_J6_numberOfTrailingZeros_0f7a4 (nx := 8) (lo' := [(0, .int z3)]) rfl rfl rfl rfl ?_
  refine ev_loc f_J6_numberOfTrailingZeros_0f7a4 (nx := 9) rfl rfl rfl rfl ?_
  refine ev_if f_J6_numberOfTrailingZeros_0f7a4 (t1 := 17) (t2 := 12) rfl rfl rfl (fun h4 => ?_) (fun h4 => ?_)
  · have l5 : 1 ≤ z3.toInt := t_ltl h4 (by decide : (0:Int) ≤ (0:Int32).toInt) rfl
    refine ev_ic f_J6_numberOfTrailingZeros_0f7a4 (nx := 18) (v := 1) rfl (by decide) rfl ?_
    refine ev_loc f_J6_numberOfTrailingZeros_0f7a4 (nx := 19) (lo' := [(1, .int 1), (0, .int z3)]) rfl rfl rfl rfl ?_
    refine ev_loc f_J6_numberOfTrailingZeros_0f7a4 (nx := 20) rfl rfl rfl rfl ?_
    refine ev_ldW f_J6_numberOfTrailingZeros_0f7a4 (nx := 23) (v := 65536) rfl (by decide) rfl ?_
    refine ev_if f_J6_numberOfTrailingZeros_0f7a4 (t1 := 34) (t2 := 26) rfl rfl rfl (fun h6 => ?_) (fun h6 => ?_)
    · have u7 : z3.toInt ≤ 65536 := t_leu h6 (by decide : (65536:Int32).toInt ≤ (65536:Int))
      refine ev_loc f_J6_numberOfTrailingZeros_0f7a4 (nx := 35) rfl rfl rfl rfl ?_
      refine ev_sp f_J6_numberOfTrailingZeros_0f7a4 (nx := 38) (v := 256) rfl (by decide) rfl ?_
      refine ev_if f_J6_numberOfTrailingZeros_0f7a4 (t1 := 49) (t2 := 41) rfl rfl rfl (fun h8 => ?_) (fun h8 => ?_)
      · have u9 : z3.toInt ≤ 256 := t_leu h8 (by decide : (256:Int32).toInt ≤ (256:Int))
        refine ev_loc f_J6_numberOfTrailingZeros_0f7a4 (nx := 50) rfl rfl rfl rfl ?_
        refine ev_bp f_J6_numberOfTrailingZeros_0f7a4 (nx := 52) (v := 16) rfl (by decide) rfl ?_
        refine ev_if f_J6_numberOfTrailingZeros_0f7a4 (t1 := 62) (t2 := 55) rfl rfl rfl (fun h10 => ?_) (fun h10 => ?_)
        · have u11 : z3.toInt ≤ 16 := t_leu h10 (by decide : (16:Int32).toInt ≤ (16:Int))
          refine ev_loc f_J6_numberOfTrailingZeros_0f7a4 (nx := 63) rfl rfl rfl rfl ?_
          refine ev_ic f_J6_numberOfTrailingZeros_0f7a4 (nx := 64) (v := 4) rfl (by decide) rfl ?_
          refine ev_if f_J6_numberOfTrailingZeros_0f7a4 (t1 := 74) (t2 := 67) rfl rfl rfl (fun h12 => ?_) (fun h12 => ?_)
          · have u13 : z3.toInt ≤ 4 := t_leu h12 (by decide : (4:Int32).toInt ≤ (4:Int))
            refine ev_loc f_J6_numberOfTrailingZeros_0f7a4 (nx := 75) rfl rfl rfl rfl ?_
            refine ev_loc f_J6_numberOfTrailingZeros_0f7a4 (nx := 76) rfl rfl rfl rfl ?_
            refine ev_ic f_J6_numberOfTrailingZeros_0f7a4 (nx := 77) (v := 1) rfl (by decide) rfl ?_
            refine ev_anyIE f_J6_numberOfTrailingZeros_0f7a4 (nx := 78) rfl rfl rfl rfl (fun z14 e14 => ?_)
            refine ev_anyIE f_J6_numberOfTrailingZeros_0f7a4 (nx := 79) rfl rfl rfl rfl (fun z15 e15 => ?_)
            exact ev_ret f_J6_numberOfTrailingZeros_0f7a4 rfl rfl rfl ⟨_, _, _, rfl, hI, hX, ⟨_, rfl, (t_lo z15), (t_hi z15), (show ∀ t : Nat, t ≤ 31 → s_tz ar0.toInt t → z15.toInt = (t : Int) from (by
                                                            intro t ht hz
                                                            have y0 := s_tz_y hz ht e1 e2 e3
                                                            have hyl : z3.toInt < 2147483648 := z3.toInt_lt
                                                            have ua : (1 : Int32).toInt = 1 := rfl
                                                            have u76 := t_us (k := 1) e14 (by decide) (by omega)
                                                            have us := s_iadd (a := (1 : Int32)) e15 (by omega) (by omega) (by omega) (by omega)
                                                            have p1 : (2 : Int) ^ 1 = 2 := by decide
                                                            rcases s_tz_f y0 (by omega) (by omega) with ⟨h1, h2⟩ | ⟨h1, h2⟩
                                                            · omega
                                                            · omega))⟩⟩
          · have l16 : 5 ≤ z3.toInt := t_ltl (t_nle h12) (by decide : (4:Int) ≤ (4:Int32).toInt) rfl
            refine ev_incv f_J6_numberOfTrailingZeros_0f7a4 (nx := 70) (c := 2) (w := 3) (lo' := [(1, .int 3), (0, .int z3)]) rfl rfl (by decide) (by decide) rfl rfl rfl ?_
            refine ev_loc f_J6_numberOfTrailingZeros_0f7a4 (nx := 71) rfl rfl rfl rfl ?_
            refine ev_ic f_J6_numberOfTrailingZeros_0f7a4 (nx := 72) (v := 2) rfl (by decide) rfl ?_
            refine ev_anyIE f_J6_numberOfTrailingZeros_0f7a4 (nx := 73) rfl rfl rfl rfl (fun z17 e17 => ?_)
            refine ev_loc f_J6_numberOfTrailingZeros_0f7a4 (nx := 74) (lo' := [(0, .int z17), (1, .int 3)]) rfl rfl rfl rfl ?_
            refine ev_loc f_J6_numberOfTrailingZeros_0f7a4 (nx := 75) rfl rfl rfl rfl ?_
            refine ev_loc f_J6_numberOfTrailingZeros_0f7a4 (nx := 76) rfl rfl rfl rfl ?_
            refine ev_ic f_J6_numberOfTrailingZeros_0f7a4 (nx := 77) (v := 1) rfl (by decide) rfl ?_
            refine ev_anyIE f_J6_numberOfTrailingZeros_0f7a4 (nx := 78) rfl rfl rfl rfl (fun z18 e18 => ?_)
            refine ev_anyIE f_J6_numberOfTrailingZeros_0f7a4 (nx := 79) rfl rfl rfl rfl (fun z19 e19 => ?_)
            exact ev_ret f_J6_numberOfTrailingZeros_0f7a4 rfl rfl rfl ⟨_, _, _, rfl, hI, hX, ⟨_, rfl, (t_lo z19), (t_hi z19), (show ∀ t : Nat, t ≤ 31 → s_tz ar0.toInt t → z19.toInt = (t : Int) from (by
                                                            intro t ht hz
                                                            have y0 := s_tz_y hz ht e1 e2 e3
                                                            have hyl : z3.toInt < 2147483648 := z3.toInt_lt
                                                            have u72 := t_us (k := 2) e17 (by decide) (by omega)
                                                            obtain ⟨n72, v72⟩ := s_tz_s (n := 2) y0 (by omega) u72
                                                            have ua : (3 : Int32).toInt = 3 := rfl
                                                            have u76 := t_us (k := 1) e18 (by decide) (by omega)
                                                            have us := s_iadd (a := (3 : Int32)) e19 (by omega) (by omega) (by omega) (by omega)
                                                            have p1 : (2 : Int) ^ 1 = 2 := by decide
                                                            rcases s_tz_f v72 (by omega) (by omega) with ⟨h1, h2⟩ | ⟨h1, h2⟩
                                                            · omega
                                                            · omega))⟩⟩
        · have l20 : 17 ≤ z3.toInt := t_ltl (t_nle h10) (by decide : (16:Int) ≤ (16:Int32).toInt) rfl
          refine ev_incv f_J6_numberOfTrailingZeros_0f7a4 (nx := 58) (c := 4) (w := 5) (lo' := [(1, .int 5), (0, .int z3)]) rfl rfl (by decide) (by decide) rfl rfl rfl ?_
          refine ev_loc f_J6_numberOfTrailingZeros_0f7a4 (nx := 59) rfl rfl rfl rfl ?_
          refine ev_ic f_J6_numberOfTrailingZeros_0f7a4 (nx := 60) (v := 4) rfl (by decide) rfl ?_
          refine ev_anyIE f_J6_numberOfTrailingZeros_0f7a4 (nx := 61) rfl rfl rfl rfl (fun z21 e21 => ?_)
          refine ev_loc f_J6_numberOfTrailingZeros_0f7a4 (nx := 62) (lo' := [(0, .int z21), (1, .int 5)]) rfl rfl rfl rfl ?_
          refine ev_loc f_J6_numberOfTrailingZeros_0f7a4 (nx := 63) rfl rfl rfl rfl ?_
          refine ev_ic f_J6_numberOfTrailingZeros_0f7a4 (nx := 64) (v := 4) rfl (by decide) rfl ?_
          refine ev_if f_J6_numberOfTrailingZeros_0f7a4 (t1 := 74) (t2 := 67) rfl rfl rfl (fun h22 => ?_) (fun h22 => ?_)
          · have u23 : z21.toInt ≤ 4 := t_leu h22 (by decide : (4:Int32).toInt ≤ (4:Int))
            refine ev_loc f_J6_numberOfTrailingZeros_0f7a4 (nx := 75) rfl rfl rfl rfl ?_
            refine ev_loc f_J6_numberOfTrailingZeros_0f7a4 (nx := 76) rfl rfl rfl rfl ?_
            refine ev_ic f_J6_numberOfTrailingZeros_0f7a4 (nx := 77) (v := 1) rfl (by decide) rfl ?_
            refine ev_anyIE f_J6_numberOfTrailingZeros_0f7a4 (nx := 78) rfl rfl rfl rfl (fun z24 e24 => ?_)
            refine ev_anyIE f_J6_numberOfTrailingZeros_0f7a4 (nx := 79) rfl rfl rfl rfl (fun z25 e25 => ?_)
            exact ev_ret f_J6_numberOfTrailingZeros_0f7a4 rfl rfl rfl ⟨_, _, _, rfl, hI, hX, ⟨_, rfl, (t_lo z25), (t_hi z25), (show ∀ t : Nat, t ≤ 31 → s_tz ar0.toInt t → z25.toInt = (t : Int) from (by
                                                            intro t ht hz
                                                            have y0 := s_tz_y hz ht e1 e2 e3
                                                            have hyl : z3.toInt < 2147483648 := z3.toInt_lt
                                                            have u60 := t_us (k := 4) e21 (by decide) (by omega)
                                                            obtain ⟨n60, v60⟩ := s_tz_s (n := 4) y0 (by omega) u60
                                                            have ua : (5 : Int32).toInt = 5 := rfl
                                                            have u76 := t_us (k := 1) e24 (by decide) (by omega)
                                                            have us := s_iadd (a := (5 : Int32)) e25 (by omega) (by omega) (by omega) (by omega)
                                                            have p1 : (2 : Int) ^ 1 = 2 := by decide
                                                            rcases s_tz_f v60 (by omega) (by omega) with ⟨h1, h2⟩ | ⟨h1, h2⟩
                                                            · omega
                                                            · omega))⟩⟩
          · have l26 : 5 ≤ z21.toInt := t_ltl (t_nle h22) (by decide : (4:Int) ≤ (4:Int32).toInt) rfl
            refine ev_incv f_J6_numberOfTrailingZeros_0f7a4 (nx := 70) (c := 2) (w := 7) (lo' := [(1, .int 7), (0, .int z21)]) rfl rfl (by decide) (by decide) rfl rfl rfl ?_
            refine ev_loc f_J6_numberOfTrailingZeros_0f7a4 (nx := 71) rfl rfl rfl rfl ?_
            refine ev_ic f_J6_numberOfTrailingZeros_0f7a4 (nx := 72) (v := 2) rfl (by decide) rfl ?_
            refine ev_anyIE f_J6_numberOfTrailingZeros_0f7a4 (nx := 73) rfl rfl rfl rfl (fun z27 e27 => ?_)
            refine ev_loc f_J6_numberOfTrailingZeros_0f7a4 (nx := 74) (lo' := [(0, .int z27), (1, .int 7)]) rfl rfl rfl rfl ?_
            refine ev_loc f_J6_numberOfTrailingZeros_0f7a4 (nx := 75) rfl rfl rfl rfl ?_
            refine ev_loc f_J6_numberOfTrailingZeros_0f7a4 (nx := 76) rfl rfl rfl rfl ?_
            refine ev_ic f_J6_numberOfTrailingZeros_0f7a4 (nx := 77) (v := 1) rfl (by decide) rfl ?_
            refine ev_anyIE f_J6_numberOfTrailingZeros_0f7a4 (nx := 78) rfl rfl rfl rfl (fun z28 e28 => ?_)
            refine ev_anyIE f_J6_numberOfTrailingZeros_0f7a4 (nx := 79) rfl rfl rfl rfl (fun z29 e29 => ?_)
            exact ev_ret f_J6_numberOfTrailingZeros_0f7a4 rfl rfl rfl ⟨_, _, _, rfl, hI, hX, ⟨_, rfl, (t_lo z29), (t_hi z29), (show ∀ t : Nat, t ≤ 31 → s_tz ar0.toInt t → z29.toInt = (t : Int) from (by
                                                            intro t ht hz
                                                            have y0 := s_tz_y hz ht e1 e2 e3
                                                            have hyl : z3.toInt < 2147483648 := z3.toInt_lt
                                                            have u60 := t_us (k := 4) e21 (by decide) (by omega)
                                                            obtain ⟨n60, v60⟩ := s_tz_s (n := 4) y0 (by omega) u60
                                                            have u72 := t_us (k := 2) e27 (by decide) (by omega)
                                                            obtain ⟨n72, v72⟩ := s_tz_s (n := 2) v60 (by omega) u72
                                                            have ua : (7 : Int32).toInt = 7 := rfl
                                                            have u76 := t_us (k := 1) e28 (by decide) (by omega)
                                                            have us := s_iadd (a := (7 : Int32)) e29 (by omega) (by omega) (by omega) (by omega)
                                                            have p1 : (2 : Int) ^ 1 = 2 := by decide
                                                            rcases s_tz_f v72 (by omega) (by omega) with ⟨h1, h2⟩ | ⟨h1, h2⟩
                                                            · omega
                                                            · omega))⟩⟩
      · have l30 : 257 ≤ z3.toInt := t_ltl (t_nle h8) (by decide : (256:Int) ≤ (256:Int32).toInt) rfl
        refine ev_incv f_J6_numberOfTrailingZeros_0f7a4 (nx := 44) (c := 8) (w := 9) (lo' := [(1, .int 9), (0, .int z3)]) rfl rfl (by decide) (by decide) rfl rfl rfl ?_
        refine ev_loc f_J6_numberOfTrailingZeros_0f7a4 (nx := 45) rfl rfl rfl rfl ?_
        refine ev_bp f_J6_numberOfTrailingZeros_0f7a4 (nx := 47) (v := 8) rfl (by decide) rfl ?_
        refine ev_anyIE f_J6_numberOfTrailingZeros_0f7a4 (nx := 48) rfl rfl rfl rfl (fun z31 e31 => ?_)
        refine ev_loc f_J6_numberOfTrailingZeros_0f7a4 (nx := 49) (lo' := [(0, .int z31), (1, .int 9)]) rfl rfl rfl rfl ?_
        refine ev_loc f_J6_numberOfTrailingZeros_0f7a4 (nx := 50) rfl rfl rfl rfl ?_
        refine ev_bp f_J6_numberOfTrailingZeros_0f7a4 (nx := 52) (v := 16) rfl (by decide) rfl ?_
        refine ev_if f_J6_numberOfTrailingZeros_0f7a4 (t1 := 62) (t2 := 55) rfl rfl rfl (fun h32 => ?_) (fun h32 => ?_)
        · have u33 : z31.toInt ≤ 16 := t_leu h32 (by decide : (16:Int32).toInt ≤ (16:Int))
          refine ev_loc f_J6_numberOfTrailingZeros_0f7a4 (nx := 63) rfl rfl rfl rfl ?_
          refine ev_ic f_J6_numberOfTrailingZeros_0f7a4 (nx := 64) (v := 4) rfl (by decide) rfl ?_
          refine ev_if f_J6_numberOfTrailingZeros_0f7a4 (t1 := 74) (t2 := 67) rfl rfl rfl (fun h34 => ?_) (fun h34 => ?_)
          · have u35 : z31.toInt ≤ 4 := t_leu h34 (by decide : (4:Int32).toInt ≤ (4:Int))
            refine ev_loc f_J6_numberOfTrailingZeros_0f7a4 (nx := 75) rfl rfl rfl rfl ?_
            refine ev_loc f_J6_numberOfTrailingZeros_0f7a4 (nx := 76) rfl rfl rfl rfl ?_
            refine ev_ic f_J6_numberOfTrailingZeros_0f7a4 (nx := 77) (v := 1) rfl (by decide) rfl ?_
            refine ev_anyIE f_J6_numberOfTrailingZeros_0f7a4 (nx := 78) rfl rfl rfl rfl (fun z36 e36 => ?_)
            refine ev_anyIE f_J6_numberOfTrailingZeros_0f7a4 (nx := 79) rfl rfl rfl rfl (fun z37 e37 => ?_)
            exact ev_ret f_J6_numberOfTrailingZeros_0f7a4 rfl rfl rfl ⟨_, _, _, rfl, hI, hX, ⟨_, rfl, (t_lo z37), (t_hi z37), (show ∀ t : Nat, t ≤ 31 → s_tz ar0.toInt t → z37.toInt = (t : Int) from (by
                                                            intro t ht hz
                                                            have y0 := s_tz_y hz ht e1 e2 e3
                                                            have hyl : z3.toInt < 2147483648 := z3.toInt_lt
                                                            have u47 := t_us (k := 8) e31 (by decide) (by omega)
                                                            obtain ⟨n47, v47⟩ := s_tz_s (n := 8) y0 (by omega) u47
                                                            have ua : (9 : Int32).toInt = 9 := rfl
                                                            have u76 := t_us (k := 1) e36 (by decide) (by omega)
                                                            have us := s_iadd (a := (9 : Int32)) e37 (by omega) (by omega) (by omega) (by omega)
                                                            have p1 : (2 : Int) ^ 1 = 2 := by decide
                                                            rcases s_tz_f v47 (by omega) (by omega) with ⟨h1, h2⟩ | ⟨h1, h2⟩
                                                            · omega
                                                            · omega))⟩⟩
          · have l38 : 5 ≤ z31.toInt := t_ltl (t_nle h34) (by decide : (4:Int) ≤ (4:Int32).toInt) rfl
            refine ev_incv f_J6_numberOfTrailingZeros_0f7a4 (nx := 70) (c := 2) (w := 11) (lo' := [(1, .int 11), (0, .int z31)]) rfl rfl (by decide) (by decide) rfl rfl rfl ?_
            refine ev_loc f_J6_numberOfTrailingZeros_0f7a4 (nx := 71) rfl rfl rfl rfl ?_
            refine ev_ic f_J6_numberOfTrailingZeros_0f7a4 (nx := 72) (v := 2) rfl (by decide) rfl ?_
            refine ev_anyIE f_J6_numberOfTrailingZeros_0f7a4 (nx := 73) rfl rfl rfl rfl (fun z39 e39 => ?_)
            refine ev_loc f_J6_numberOfTrailingZeros_0f7a4 (nx := 74) (lo' := [(0, .int z39), (1, .int 11)]) rfl rfl rfl rfl ?_
            refine ev_loc f_J6_numberOfTrailingZeros_0f7a4 (nx := 75) rfl rfl rfl rfl ?_
            refine ev_loc f_J6_numberOfTrailingZeros_0f7a4 (nx := 76) rfl rfl rfl rfl ?_
            refine ev_ic f_J6_numberOfTrailingZeros_0f7a4 (nx := 77) (v := 1) rfl (by decide) rfl ?_
            refine ev_anyIE f_J6_numberOfTrailingZeros_0f7a4 (nx := 78) rfl rfl rfl rfl (fun z40 e40 => ?_)
            refine ev_anyIE f_J6_numberOfTrailingZeros_0f7a4 (nx := 79) rfl rfl rfl rfl (fun z41 e41 => ?_)
            exact ev_ret f_J6_numberOfTrailingZeros_0f7a4 rfl rfl rfl ⟨_, _, _, rfl, hI, hX, ⟨_, rfl, (t_lo z41), (t_hi z41), (show ∀ t : Nat, t ≤ 31 → s_tz ar0.toInt t → z41.toInt = (t : Int) from (by
                                                            intro t ht hz
                                                            have y0 := s_tz_y hz ht e1 e2 e3
                                                            have hyl : z3.toInt < 2147483648 := z3.toInt_lt
                                                            have u47 := t_us (k := 8) e31 (by decide) (by omega)
                                                            obtain ⟨n47, v47⟩ := s_tz_s (n := 8) y0 (by omega) u47
                                                            have u72 := t_us (k := 2) e39 (by decide) (by omega)
                                                            obtain ⟨n72, v72⟩ := s_tz_s (n := 2) v47 (by omega) u72
                                                            have ua : (11 : Int32).toInt = 11 := rfl
                                                            have u76 := t_us (k := 1) e40 (by decide) (by omega)
                                                            have us := s_iadd (a := (11 : Int32)) e41 (by omega) (by omega) (by omega) (by omega)
                                                            have p1 : (2 : Int) ^ 1 = 2 := by decide
                                                            rcases s_tz_f v72 (by omega) (by omega) with ⟨h1, h2⟩ | ⟨h1, h2⟩
                                                            · omega
                                                            · omega))⟩⟩
        · have l42 : 17 ≤ z31.toInt := t_ltl (t_nle h32) (by decide : (16:Int) ≤ (16:Int32).toInt) rfl
          refine ev_incv f_J6_numberOfTrailingZeros_0f7a4 (nx := 58) (c := 4) (w := 13) (lo' := [(1, .int 13), (0, .int z31)]) rfl rfl (by decide) (by decide) rfl rfl rfl ?_
          refine ev_loc f_J6_numberOfTrailingZeros_0f7a4 (nx := 59) rfl rfl rfl rfl ?_
          refine ev_ic f_J6_numberOfTrailingZeros_0f7a4 (nx := 60) (v := 4) rfl (by decide) rfl ?_
          refine ev_anyIE f_J6_numberOfTrailingZeros_0f7a4 (nx := 61) rfl rfl rfl rfl (fun z43 e43 => ?_)
          refine ev_loc f_J6_numberOfTrailingZeros_0f7a4 (nx := 62) (lo' := [(0, .int z43), (1, .int 13)]) rfl rfl rfl rfl ?_
          refine ev_loc f_J6_numberOfTrailingZeros_0f7a4 (nx := 63) rfl rfl rfl rfl ?_
          refine ev_ic f_J6_numberOfTrailingZeros_0f7a4 (nx := 64) (v := 4) rfl (by decide) rfl ?_
          refine ev_if f_J6_numberOfTrailingZeros_0f7a4 (t1 := 74) (t2 := 67) rfl rfl rfl (fun h44 => ?_) (fun h44 => ?_)
          · have u45 : z43.toInt ≤ 4 := t_leu h44 (by decide : (4:Int32).toInt ≤ (4:Int))
            refine ev_loc f_J6_numberOfTrailingZeros_0f7a4 (nx := 75) rfl rfl rfl rfl ?_
            refine ev_loc f_J6_numberOfTrailingZeros_0f7a4 (nx := 76) rfl rfl rfl rfl ?_
            refine ev_ic f_J6_numberOfTrailingZeros_0f7a4 (nx := 77) (v := 1) rfl (by decide) rfl ?_
            refine ev_anyIE f_J6_numberOfTrailingZeros_0f7a4 (nx := 78) rfl rfl rfl rfl (fun z46 e46 => ?_)
            refine ev_anyIE f_J6_numberOfTrailingZeros_0f7a4 (nx := 79) rfl rfl rfl rfl (fun z47 e47 => ?_)
            exact ev_ret f_J6_numberOfTrailingZeros_0f7a4 rfl rfl rfl ⟨_, _, _, rfl, hI, hX, ⟨_, rfl, (t_lo z47), (t_hi z47), (show ∀ t : Nat, t ≤ 31 → s_tz ar0.toInt t → z47.toInt = (t : Int) from (by
                                                            intro t ht hz
                                                            have y0 := s_tz_y hz ht e1 e2 e3
                                                            have hyl : z3.toInt < 2147483648 := z3.toInt_lt
                                                            have u47 := t_us (k := 8) e31 (by decide) (by omega)
                                                            obtain ⟨n47, v47⟩ := s_tz_s (n := 8) y0 (by omega) u47
                                                            have u60 := t_us (k := 4) e43 (by decide) (by omega)
                                                            obtain ⟨n60, v60⟩ := s_tz_s (n := 4) v47 (by omega) u60
                                                            have ua : (13 : Int32).toInt = 13 := rfl
                                                            have u76 := t_us (k := 1) e46 (by decide) (by omega)
                                                            have us := s_iadd (a := (13 : Int32)) e47 (by omega) (by omega) (by omega) (by omega)
                                                            have p1 : (2 : Int) ^ 1 = 2 := by decide
                                                            rcases s_tz_f v60 (by omega) (by omega) with ⟨h1, h2⟩ | ⟨h1, h2⟩
                                                            · omega
                                                            · omega))⟩⟩
          · have l48 : 5 ≤ z43.toInt := t_ltl (t_nle h44) (by decide : (4:Int) ≤ (4:Int32).toInt) rfl
            refine ev_incv f_J6_numberOfTrailingZeros_0f7a4 (nx := 70) (c := 2) (w := 15) (lo' := [(1, .int 15), (0, .int z43)]) rfl rfl (by decide) (by decide) rfl rfl rfl ?_
            refine ev_loc f_J6_numberOfTrailingZeros_0f7a4 (nx := 71) rfl rfl rfl rfl ?_
            refine ev_ic f_J6_numberOfTrailingZeros_0f7a4 (nx := 72) (v := 2) rfl (by decide) rfl ?_
            refine ev_anyIE f_J6_numberOfTrailingZeros_0f7a4 (nx := 73) rfl rfl rfl rfl (fun z49 e49 => ?_)
            refine ev_loc f_J6_numberOfTrailingZeros_0f7a4 (nx := 74) (lo' := [(0, .int z49), (1, .int 15)]) rfl rfl rfl rfl ?_
            refine ev_loc f_J6_numberOfTrailingZeros_0f7a4 (nx := 75) rfl rfl rfl rfl ?_
            refine ev_loc f_J6_numberOfTrailingZeros_0f7a4 (nx := 76) rfl rfl rfl rfl ?_
            refine ev_ic f_J6_numberOfTrailingZeros_0f7a4 (nx := 77) (v := 1) rfl (by decide) rfl ?_
            refine ev_anyIE f_J6_numberOfTrailingZeros_0f7a4 (nx := 78) rfl rfl rfl rfl (fun z50 e50 => ?_)
            refine ev_anyIE f_J6_numberOfTrailingZeros_0f7a4 (nx := 79) rfl rfl rfl rfl (fun z51 e51 => ?_)
            exact ev_ret f_J6_numberOfTrailingZeros_0f7a4 rfl rfl rfl ⟨_, _, _, rfl, hI, hX, ⟨_, rfl, (t_lo z51), (t_hi z51), (show ∀ t : Nat, t ≤ 31 → s_tz ar0.toInt t → z51.toInt = (t : Int) from (by
                                                            intro t ht hz
                                                            have y0 := s_tz_y hz ht e1 e2 e3
                                                            have hyl : z3.toInt < 2147483648 := z3.toInt_lt
                                                            have u47 := t_us (k := 8) e31 (by decide) (by omega)
                                                            obtain ⟨n47, v47⟩ := s_tz_s (n := 8) y0 (by omega) u47
                                                            have u60 := t_us (k := 4) e43 (by decide) (by omega)
                                                            obtain ⟨n60, v60⟩ := s_tz_s (n := 4) v47 (by omega) u60
                                                            have u72 := t_us (k := 2) e49 (by decide) (by omega)
                                                            obtain ⟨n72, v72⟩ := s_tz_s (n := 2) v60 (by omega) u72
                                                            have ua : (15 : Int32).toInt = 15 := rfl
                                                            have u76 := t_us (k := 1) e50 (by decide) (by omega)
                                                            have us := s_iadd (a := (15 : Int32)) e51 (by omega) (by omega) (by omega) (by omega)
                                                            have p1 : (2 : Int) ^ 1 = 2 := by decide
                                                            rcases s_tz_f v72 (by omega) (by omega) with ⟨h1, h2⟩ | ⟨h1, h2⟩
                                                            · omega
                                                            · omega))⟩⟩
    · have l52 : 65537 ≤ z3.toInt := t_ltl (t_nle h6) (by decide : (65536:Int) ≤ (65536:Int32).toInt) rfl
      refine ev_incv f_J6_numberOfTrailingZeros_0f7a4 (nx := 29) (c := 16) (w := 17) (lo' := [(1, .int 17), (0, .int z3)]) rfl rfl (by decide) (by decide) rfl rfl rfl ?_
      refine ev_loc f_J6_numberOfTrailingZeros_0f7a4 (nx := 30) rfl rfl rfl rfl ?_
      refine ev_bp f_J6_numberOfTrailingZeros_0f7a4 (nx := 32) (v := 16) rfl (by decide) rfl ?_
      refine ev_anyIE f_J6_numberOfTrailingZeros_0f7a4 (nx := 33) rfl rfl rfl rfl (fun z53 e53 => ?_)
      refine ev_loc f_J6_numberOfTrailingZeros_0f7a4 (nx := 34) (lo' := [(0, .int z53), (1, .int 17)]) rfl rfl rfl rfl ?_
      refine ev_loc f_J6_numberOfTrailingZeros_0f7a4 (nx := 35) rfl rfl rfl rfl ?_
      refine ev_sp f_J6_numberOfTrailingZeros_0f7a4 (nx := 38) (v := 256) rfl (by decide) rfl ?_
      refine ev_if f_J6_numberOfTrailingZeros_0f7a4 (t1 := 49) (t2 := 41) rfl rfl rfl (fun h54 => ?_) (fun h54 => ?_)
      · have u55 : z53.toInt ≤ 256 := t_leu h54 (by decide : (256:Int32).toInt ≤ (256:Int))
        refine ev_loc f_J6_numberOfTrailingZeros_0f7a4 (nx := 50) rfl rfl rfl rfl ?_
        refine ev_bp f_J6_numberOfTrailingZeros_0f7a4 (nx := 52) (v := 16) rfl (by decide) rfl ?_
        refine ev_if f_J6_numberOfTrailingZeros_0f7a4 (t1 := 62) (t2 := 55) rfl rfl rfl (fun h56 => ?_) (fun h56 => ?_)
        · have u57 : z53.toInt ≤ 16 := t_leu h56 (by decide : (16:Int32).toInt ≤ (16:Int))
          refine ev_loc f_J6_numberOfTrailingZeros_0f7a4 (nx := 63) rfl rfl rfl rfl ?_
          refine ev_ic f_J6_numberOfTrailingZeros_0f7a4 (nx := 64) (v := 4) rfl (by decide) rfl ?_
          refine ev_if f_J6_numberOfTrailingZeros_0f7a4 (t1 := 74) (t2 := 67) rfl rfl rfl (fun h58 => ?_) (fun h58 => ?_)
          · have u59 : z53.toInt ≤ 4 := t_leu h58 (by decide : (4:Int32).toInt ≤ (4:Int))
            refine ev_loc f_J6_numberOfTrailingZeros_0f7a4 (nx := 75) rfl rfl rfl rfl ?_
            refine ev_loc f_J6_numberOfTrailingZeros_0f7a4 (nx := 76) rfl rfl rfl rfl ?_
            refine ev_ic f_J6_numberOfTrailingZeros_0f7a4 (nx := 77) (v := 1) rfl (by decide) rfl ?_
            refine ev_anyIE f_J6_numberOfTrailingZeros_0f7a4 (nx := 78) rfl rfl rfl rfl (fun z60 e60 => ?_)
            refine ev_anyIE f_J6_numberOfTrailingZeros_0f7a4 (nx := 79) rfl rfl rfl rfl (fun z61 e61 => ?_)
            exact ev_ret f_J6_numberOfTrailingZeros_0f7a4 rfl rfl rfl ⟨_, _, _, rfl, hI, hX, ⟨_, rfl, (t_lo z61), (t_hi z61), (show ∀ t : Nat, t ≤ 31 → s_tz ar0.toInt t → z61.toInt = (t : Int) from (by
                                                            intro t ht hz
                                                            have y0 := s_tz_y hz ht e1 e2 e3
                                                            have hyl : z3.toInt < 2147483648 := z3.toInt_lt
                                                            have u32 := t_us (k := 16) e53 (by decide) (by omega)
                                                            obtain ⟨n32, v32⟩ := s_tz_s (n := 16) y0 (by omega) u32
                                                            have ua : (17 : Int32).toInt = 17 := rfl
                                                            have u76 := t_us (k := 1) e60 (by decide) (by omega)
                                                            have us := s_iadd (a := (17 : Int32)) e61 (by omega) (by omega) (by omega) (by omega)
                                                            have p1 : (2 : Int) ^ 1 = 2 := by decide
                                                            rcases s_tz_f v32 (by omega) (by omega) with ⟨h1, h2⟩ | ⟨h1, h2⟩
                                                            · omega
                                                            · omega))⟩⟩
          · have l62 : 5 ≤ z53.toInt := t_ltl (t_nle h58) (by decide : (4:Int) ≤ (4:Int32).toInt) rfl
            refine ev_incv f_J6_numberOfTrailingZeros_0f7a4 (nx := 70) (c := 2) (w := 19) (lo' := [(1, .int 19), (0, .int z53)]) rfl rfl (by decide) (by decide) rfl rfl rfl ?_
            refine ev_loc f_J6_numberOfTrailingZeros_0f7a4 (nx := 71) rfl rfl rfl rfl ?_
            refine ev_ic f_J6_numberOfTrailingZeros_0f7a4 (nx := 72) (v := 2) rfl (by decide) rfl ?_
            refine ev_anyIE f_J6_numberOfTrailingZeros_0f7a4 (nx := 73) rfl rfl rfl rfl (fun z63 e63 => ?_)
            refine ev_loc f_J6_numberOfTrailingZeros_0f7a4 (nx := 74) (lo' := [(0, .int z63), (1, .int 19)]) rfl rfl rfl rfl ?_
            refine ev_loc f_J6_numberOfTrailingZeros_0f7a4 (nx := 75) rfl rfl rfl rfl ?_
            refine ev_loc f_J6_numberOfTrailingZeros_0f7a4 (nx := 76) rfl rfl rfl rfl ?_
            refine ev_ic f_J6_numberOfTrailingZeros_0f7a4 (nx := 77) (v := 1) rfl (by decide) rfl ?_
            refine ev_anyIE f_J6_numberOfTrailingZeros_0f7a4 (nx := 78) rfl rfl rfl rfl (fun z64 e64 => ?_)
            refine ev_anyIE f_J6_numberOfTrailingZeros_0f7a4 (nx := 79) rfl rfl rfl rfl (fun z65 e65 => ?_)
            exact ev_ret f_J6_numberOfTrailingZeros_0f7a4 rfl rfl rfl ⟨_, _, _, rfl, hI, hX, ⟨_, rfl, (t_lo z65), (t_hi z65), (show ∀ t : Nat, t ≤ 31 → s_tz ar0.toInt t → z65.toInt = (t : Int) from (by
                                                            intro t ht hz
                                                            have y0 := s_tz_y hz ht e1 e2 e3
                                                            have hyl : z3.toInt < 2147483648 := z3.toInt_lt
                                                            have u32 := t_us (k := 16) e53 (by decide) (by omega)
                                                            obtain ⟨n32, v32⟩ := s_tz_s (n := 16) y0 (by omega) u32
                                                            have u72 := t_us (k := 2) e63 (by decide) (by omega)
                                                            obtain ⟨n72, v72⟩ := s_tz_s (n := 2) v32 (by omega) u72
                                                            have ua : (19 : Int32).toInt = 19 := rfl
                                                            have u76 := t_us (k := 1) e64 (by decide) (by omega)
                                                            have us := s_iadd (a := (19 : Int32)) e65 (by omega) (by omega) (by omega) (by omega)
                                                            have p1 : (2 : Int) ^ 1 = 2 := by decide
                                                            rcases s_tz_f v72 (by omega) (by omega) with ⟨h1, h2⟩ | ⟨h1, h2⟩
                                                            · omega
                                                            · omega))⟩⟩
        · have l66 : 17 ≤ z53.toInt := t_ltl (t_nle h56) (by decide : (16:Int) ≤ (16:Int32).toInt) rfl
          refine ev_incv f_J6_numberOfTrailingZeros_0f7a4 (nx := 58) (c := 4) (w := 21) (lo' := [(1, .int 21), (0, .int z53)]) rfl rfl (by decide) (by decide) rfl rfl rfl ?_
          refine ev_loc f_J6_numberOfTrailingZeros_0f7a4 (nx := 59) rfl rfl rfl rfl ?_
          refine ev_ic f_J6_numberOfTrailingZeros_0f7a4 (nx := 60) (v := 4) rfl (by decide) rfl ?_
          refine ev_anyIE f_J6_numberOfTrailingZeros_0f7a4 (nx := 61) rfl rfl rfl rfl (fun z67 e67 => ?_)
          refine ev_loc f_J6_numberOfTrailingZeros_0f7a4 (nx := 62) (lo' := [(0, .int z67), (1, .int 21)]) rfl rfl rfl rfl ?_
          refine ev_loc f_J6_numberOfTrailingZeros_0f7a4 (nx := 63) rfl rfl rfl rfl ?_
          refine ev_ic f_J6_numberOfTrailingZeros_0f7a4 (nx := 64) (v := 4) rfl (by decide) rfl ?_
          refine ev_if f_J6_numberOfTrailingZeros_0f7a4 (t1 := 74) (t2 := 67) rfl rfl rfl (fun h68 => ?_) (fun h68 => ?_)
          · have u69 : z67.toInt ≤ 4 := t_leu h68 (by decide : (4:Int32).toInt ≤ (4:Int))
            refine ev_loc f_J6_numberOfTrailingZeros_0f7a4 (nx := 75) rfl rfl rfl rfl ?_
            refine ev_loc f_J6_numberOfTrailingZeros_0f7a4 (nx := 76) rfl rfl rfl rfl ?_
            refine ev_ic f_J6_numberOfTrailingZeros_0f7a4 (nx := 77) (v := 1) rfl (by decide) rfl ?_
            refine ev_anyIE f_J6_numberOfTrailingZeros_0f7a4 (nx := 78) rfl rfl rfl rfl (fun z70 e70 => ?_)
            refine ev_anyIE f_J6_numberOfTrailingZeros_0f7a4 (nx := 79) rfl rfl rfl rfl (fun z71 e71 => ?_)
            exact ev_ret f_J6_numberOfTrailingZeros_0f7a4 rfl rfl rfl ⟨_, _, _, rfl, hI, hX, ⟨_, rfl, (t_lo z71), (t_hi z71), (show ∀ t : Nat, t ≤ 31 → s_tz ar0.toInt t → z71.toInt = (t : Int) from (by
                                                            intro t ht hz
                                                            have y0 := s_tz_y hz ht e1 e2 e3
                                                            have hyl : z3.toInt < 2147483648 := z3.toInt_lt
                                                            have u32 := t_us (k := 16) e53 (by decide) (by omega)
                                                            obtain ⟨n32, v32⟩ := s_tz_s (n := 16) y0 (by omega) u32
                                                            have u60 := t_us (k := 4) e67 (by decide) (by omega)
                                                            obtain ⟨n60, v60⟩ := s_tz_s (n := 4) v32 (by omega) u60
                                                            have ua : (21 : Int32).toInt = 21 := rfl
                                                            have u76 := t_us (k := 1) e70 (by decide) (by omega)
                                                            have us := s_iadd (a := (21 : Int32)) e71 (by omega) (by omega) (by omega) (by omega)
                                                            have p1 : (2 : Int) ^ 1 = 2 := by decide
                                                            rcases s_tz_f v60 (by omega) (by omega) with ⟨h1, h2⟩ | ⟨h1, h2⟩
                                                            · omega
                                                            · omega))⟩⟩
          · have l72 : 5 ≤ z67.toInt := t_ltl (t_nle h68) (by decide : (4:Int) ≤ (4:Int32).toInt) rfl
            refine ev_incv f_J6_numberOfTrailingZeros_0f7a4 (nx := 70) (c := 2) (w := 23) (lo' := [(1, .int 23), (0, .int z67)]) rfl rfl (by decide) (by decide) rfl rfl rfl ?_
            refine ev_loc f_J6_numberOfTrailingZeros_0f7a4 (nx := 71) rfl rfl rfl rfl ?_
            refine ev_ic f_J6_numberOfTrailingZeros_0f7a4 (nx := 72) (v := 2) rfl (by decide) rfl ?_
            refine ev_anyIE f_J6_numberOfTrailingZeros_0f7a4 (nx := 73) rfl rfl rfl rfl (fun z73 e73 => ?_)
            refine ev_loc f_J6_numberOfTrailingZeros_0f7a4 (nx := 74) (lo' := [(0, .int z73), (1, .int 23)]) rfl rfl rfl rfl ?_
            refine ev_loc f_J6_numberOfTrailingZeros_0f7a4 (nx := 75) rfl rfl rfl rfl ?_
            refine ev_loc f_J6_numberOfTrailingZeros_0f7a4 (nx := 76) rfl rfl rfl rfl ?_
            refine ev_ic f_J6_numberOfTrailingZeros_0f7a4 (nx := 77) (v := 1) rfl (by decide) rfl ?_
            refine ev_anyIE f_J6_numberOfTrailingZeros_0f7a4 (nx := 78) rfl rfl rfl rfl (fun z74 e74 => ?_)
            refine ev_anyIE f_J6_numberOfTrailingZeros_0f7a4 (nx := 79) rfl rfl rfl rfl (fun z75 e75 => ?_)
            exact ev_ret f_J6_numberOfTrailingZeros_0f7a4 rfl rfl rfl ⟨_, _, _, rfl, hI, hX, ⟨_, rfl, (t_lo z75), (t_hi z75), (show ∀ t : Nat, t ≤ 31 → s_tz ar0.toInt t → z75.toInt = (t : Int) from (by
                                                            intro t ht hz
                                                            have y0 := s_tz_y hz ht e1 e2 e3
                                                            have hyl : z3.toInt < 2147483648 := z3.toInt_lt
                                                            have u32 := t_us (k := 16) e53 (by decide) (by omega)
                                                            obtain ⟨n32, v32⟩ := s_tz_s (n := 16) y0 (by omega) u32
                                                            have u60 := t_us (k := 4) e67 (by decide) (by omega)
                                                            obtain ⟨n60, v60⟩ := s_tz_s (n := 4) v32 (by omega) u60
                                                            have u72 := t_us (k := 2) e73 (by decide) (by omega)
                                                            obtain ⟨n72, v72⟩ := s_tz_s (n := 2) v60 (by omega) u72
                                                            have ua : (23 : Int32).toInt = 23 := rfl
                                                            have u76 := t_us (k := 1) e74 (by decide) (by omega)
                                                            have us := s_iadd (a := (23 : Int32)) e75 (by omega) (by omega) (by omega) (by omega)
                                                            have p1 : (2 : Int) ^ 1 = 2 := by decide
                                                            rcases s_tz_f v72 (by omega) (by omega) with ⟨h1, h2⟩ | ⟨h1, h2⟩
                                                            · omega
                                                            · omega))⟩⟩
      · have l76 : 257 ≤ z53.toInt := t_ltl (t_nle h54) (by decide : (256:Int) ≤ (256:Int32).toInt) rfl
        refine ev_incv f_J6_numberOfTrailingZeros_0f7a4 (nx := 44) (c := 8) (w := 25) (lo' := [(1, .int 25), (0, .int z53)]) rfl rfl (by decide) (by decide) rfl rfl rfl ?_
        refine ev_loc f_J6_numberOfTrailingZeros_0f7a4 (nx := 45) rfl rfl rfl rfl ?_
        refine ev_bp f_J6_numberOfTrailingZeros_0f7a4 (nx := 47) (v := 8) rfl (by decide) rfl ?_
        refine ev_anyIE f_J6_numberOfTrailingZeros_0f7a4 (nx := 48) rfl rfl rfl rfl (fun z77 e77 => ?_)
        refine ev_loc f_J6_numberOfTrailingZeros_0f7a4 (nx := 49) (lo' := [(0, .int z77), (1, .int 25)]) rfl rfl rfl rfl ?_
        refine ev_loc f_J6_numberOfTrailingZeros_0f7a4 (nx := 50) rfl rfl rfl rfl ?_
        refine ev_bp f_J6_numberOfTrailingZeros_0f7a4 (nx := 52) (v := 16) rfl (by decide) rfl ?_
        refine ev_if f_J6_numberOfTrailingZeros_0f7a4 (t1 := 62) (t2 := 55) rfl rfl rfl (fun h78 => ?_) (fun h78 => ?_)
        · have u79 : z77.toInt ≤ 16 := t_leu h78 (by decide : (16:Int32).toInt ≤ (16:Int))
          refine ev_loc f_J6_numberOfTrailingZeros_0f7a4 (nx := 63) rfl rfl rfl rfl ?_
          refine ev_ic f_J6_numberOfTrailingZeros_0f7a4 (nx := 64) (v := 4) rfl (by decide) rfl ?_
          refine ev_if f_J6_numberOfTrailingZeros_0f7a4 (t1 := 74) (t2 := 67) rfl rfl rfl (fun h80 => ?_) (fun h80 => ?_)
          · have u81 : z77.toInt ≤ 4 := t_leu h80 (by decide : (4:Int32).toInt ≤ (4:Int))
            refine ev_loc f_J6_numberOfTrailingZeros_0f7a4 (nx := 75) rfl rfl rfl rfl ?_
            refine ev_loc f_J6_numberOfTrailingZeros_0f7a4 (nx := 76) rfl rfl rfl rfl ?_
            refine ev_ic f_J6_numberOfTrailingZeros_0f7a4 (nx := 77) (v := 1) rfl (by decide) rfl ?_
            refine ev_anyIE f_J6_numberOfTrailingZeros_0f7a4 (nx := 78) rfl rfl rfl rfl (fun z82 e82 => ?_)
            refine ev_anyIE f_J6_numberOfTrailingZeros_0f7a4 (nx := 79) rfl rfl rfl rfl (fun z83 e83 => ?_)
            exact ev_ret f_J6_numberOfTrailingZeros_0f7a4 rfl rfl rfl ⟨_, _, _, rfl, hI, hX, ⟨_, rfl, (t_lo z83), (t_hi z83), (show ∀ t : Nat, t ≤ 31 → s_tz ar0.toInt t → z83.toInt = (t : Int) from (by
                                                            intro t ht hz
                                                            have y0 := s_tz_y hz ht e1 e2 e3
                                                            have hyl : z3.toInt < 2147483648 := z3.toInt_lt
                                                            have u32 := t_us (k := 16) e53 (by decide) (by omega)
                                                            obtain ⟨n32, v32⟩ := s_tz_s (n := 16) y0 (by omega) u32
                                                            have u47 := t_us (k := 8) e77 (by decide) (by omega)
                                                            obtain ⟨n47, v47⟩ := s_tz_s (n := 8) v32 (by omega) u47
                                                            have ua : (25 : Int32).toInt = 25 := rfl
                                                            have u76 := t_us (k := 1) e82 (by decide) (by omega)
                                                            have us := s_iadd (a := (25 : Int32)) e83 (by omega) (by omega) (by omega) (by omega)
                                                            have p1 : (2 : Int) ^ 1 = 2 := by decide
                                                            rcases s_tz_f v47 (by omega) (by omega) with ⟨h1, h2⟩ | ⟨h1, h2⟩
                                                            · omega
                                                            · omega))⟩⟩
          · have l84 : 5 ≤ z77.toInt := t_ltl (t_nle h80) (by decide : (4:Int) ≤ (4:Int32).toInt) rfl
            refine ev_incv f_J6_numberOfTrailingZeros_0f7a4 (nx := 70) (c := 2) (w := 27) (lo' := [(1, .int 27), (0, .int z77)]) rfl rfl (by decide) (by decide) rfl rfl rfl ?_
            refine ev_loc f_J6_numberOfTrailingZeros_0f7a4 (nx := 71) rfl rfl rfl rfl ?_
            refine ev_ic f_J6_numberOfTrailingZeros_0f7a4 (nx := 72) (v := 2) rfl (by decide) rfl ?_
            refine ev_anyIE f_J6_numberOfTrailingZeros_0f7a4 (nx := 73) rfl rfl rfl rfl (fun z85 e85 => ?_)
            refine ev_loc f_J6_numberOfTrailingZeros_0f7a4 (nx := 74) (lo' := [(0, .int z85), (1, .int 27)]) rfl rfl rfl rfl ?_
            refine ev_loc f_J6_numberOfTrailingZeros_0f7a4 (nx := 75) rfl rfl rfl rfl ?_
            refine ev_loc f_J6_numberOfTrailingZeros_0f7a4 (nx := 76) rfl rfl rfl rfl ?_
            refine ev_ic f_J6_numberOfTrailingZeros_0f7a4 (nx := 77) (v := 1) rfl (by decide) rfl ?_
            refine ev_anyIE f_J6_numberOfTrailingZeros_0f7a4 (nx := 78) rfl rfl rfl rfl (fun z86 e86 => ?_)
            refine ev_anyIE f_J6_numberOfTrailingZeros_0f7a4 (nx := 79) rfl rfl rfl rfl (fun z87 e87 => ?_)
            exact ev_ret f_J6_numberOfTrailingZeros_0f7a4 rfl rfl rfl ⟨_, _, _, rfl, hI, hX, ⟨_, rfl, (t_lo z87), (t_hi z87), (show ∀ t : Nat, t ≤ 31 → s_tz ar0.toInt t → z87.toInt = (t : Int) from (by
                                                            intro t ht hz
                                                            have y0 := s_tz_y hz ht e1 e2 e3
                                                            have hyl : z3.toInt < 2147483648 := z3.toInt_lt
                                                            have u32 := t_us (k := 16) e53 (by decide) (by omega)
                                                            obtain ⟨n32, v32⟩ := s_tz_s (n := 16) y0 (by omega) u32
                                                            have u47 := t_us (k := 8) e77 (by decide) (by omega)
                                                            obtain ⟨n47, v47⟩ := s_tz_s (n := 8) v32 (by omega) u47
                                                            have u72 := t_us (k := 2) e85 (by decide) (by omega)
                                                            obtain ⟨n72, v72⟩ := s_tz_s (n := 2) v47 (by omega) u72
                                                            have ua : (27 : Int32).toInt = 27 := rfl
                                                            have u76 := t_us (k := 1) e86 (by decide) (by omega)
                                                            have us := s_iadd (a := (27 : Int32)) e87 (by omega) (by omega) (by omega) (by omega)
                                                            have p1 : (2 : Int) ^ 1 = 2 := by decide
                                                            rcases s_tz_f v72 (by omega) (by omega) with ⟨h1, h2⟩ | ⟨h1, h2⟩
                                                            · omega
                                                            · omega))⟩⟩
        · have l88 : 17 ≤ z77.toInt := t_ltl (t_nle h78) (by decide : (16:Int) ≤ (16:Int32).toInt) rfl
          refine ev_incv f_J6_numberOfTrailingZeros_0f7a4 (nx := 58) (c := 4) (w := 29) (lo' := [(1, .int 29), (0, .int z77)]) rfl rfl (by decide) (by decide) rfl rfl rfl ?_
          refine ev_loc f_J6_numberOfTrailingZeros_0f7a4 (nx := 59) rfl rfl rfl rfl ?_
          refine ev_ic f_J6_numberOfTrailingZeros_0f7a4 (nx := 60) (v := 4) rfl (by decide) rfl ?_
          refine ev_anyIE f_J6_numberOfTrailingZeros_0f7a4 (nx := 61) rfl rfl rfl rfl (fun z89 e89 => ?_)
          refine ev_loc f_J6_numberOfTrailingZeros_0f7a4 (nx := 62) (lo' := [(0, .int z89), (1, .int 29)]) rfl rfl rfl rfl ?_
          refine ev_loc f_J6_numberOfTrailingZeros_0f7a4 (nx := 63) rfl rfl rfl rfl ?_
          refine ev_ic f_J6_numberOfTrailingZeros_0f7a4 (nx := 64) (v := 4) rfl (by decide) rfl ?_
          refine ev_if f_J6_numberOfTrailingZeros_0f7a4 (t1 := 74) (t2 := 67) rfl rfl rfl (fun h90 => ?_) (fun h90 => ?_)
          · have u91 : z89.toInt ≤ 4 := t_leu h90 (by decide : (4:Int32).toInt ≤ (4:Int))
            refine ev_loc f_J6_numberOfTrailingZeros_0f7a4 (nx := 75) rfl rfl rfl rfl ?_
            refine ev_loc f_J6_numberOfTrailingZeros_0f7a4 (nx := 76) rfl rfl rfl rfl ?_
            refine ev_ic f_J6_numberOfTrailingZeros_0f7a4 (nx := 77) (v := 1) rfl (by decide) rfl ?_
            refine ev_anyIE f_J6_numberOfTrailingZeros_0f7a4 (nx := 78) rfl rfl rfl rfl (fun z92 e92 => ?_)
            refine ev_anyIE f_J6_numberOfTrailingZeros_0f7a4 (nx := 79) rfl rfl rfl rfl (fun z93 e93 => ?_)
            exact ev_ret f_J6_numberOfTrailingZeros_0f7a4 rfl rfl rfl ⟨_, _, _, rfl, hI, hX, ⟨_, rfl, (t_lo z93), (t_hi z93), (show ∀ t : Nat, t ≤ 31 → s_tz ar0.toInt t → z93.toInt = (t : Int) from (by
                                                            intro t ht hz
                                                            have y0 := s_tz_y hz ht e1 e2 e3
                                                            have hyl : z3.toInt < 2147483648 := z3.toInt_lt
                                                            have u32 := t_us (k := 16) e53 (by decide) (by omega)
                                                            obtain ⟨n32, v32⟩ := s_tz_s (n := 16) y0 (by omega) u32
                                                            have u47 := t_us (k := 8) e77 (by decide) (by omega)
                                                            obtain ⟨n47, v47⟩ := s_tz_s (n := 8) v32 (by omega) u47
                                                            have u60 := t_us (k := 4) e89 (by decide) (by omega)
                                                            obtain ⟨n60, v60⟩ := s_tz_s (n := 4) v47 (by omega) u60
                                                            have ua : (29 : Int32).toInt = 29 := rfl
                                                            have u76 := t_us (k := 1) e92 (by decide) (by omega)
                                                            have us := s_iadd (a := (29 : Int32)) e93 (by omega) (by omega) (by omega) (by omega)
                                                            have p1 : (2 : Int) ^ 1 = 2 := by decide
                                                            rcases s_tz_f v60 (by omega) (by omega) with ⟨h1, h2⟩ | ⟨h1, h2⟩
                                                            · omega
                                                            · omega))⟩⟩
          · have l94 : 5 ≤ z89.toInt := t_ltl (t_nle h90) (by decide : (4:Int) ≤ (4:Int32).toInt) rfl
            refine ev_incv f_J6_numberOfTrailingZeros_0f7a4 (nx := 70) (c := 2) (w := 31) (lo' := [(1, .int 31), (0, .int z89)]) rfl rfl (by decide) (by decide) rfl rfl rfl ?_
            refine ev_loc f_J6_numberOfTrailingZeros_0f7a4 (nx := 71) rfl rfl rfl rfl ?_
            refine ev_ic f_J6_numberOfTrailingZeros_0f7a4 (nx := 72) (v := 2) rfl (by decide) rfl ?_
            refine ev_anyIE f_J6_numberOfTrailingZeros_0f7a4 (nx := 73) rfl rfl rfl rfl (fun z95 e95 => ?_)
            refine ev_loc f_J6_numberOfTrailingZeros_0f7a4 (nx := 74) (lo' := [(0, .int z95), (1, .int 31)]) rfl rfl rfl rfl ?_
            refine ev_loc f_J6_numberOfTrailingZeros_0f7a4 (nx := 75) rfl rfl rfl rfl ?_
            refine ev_loc f_J6_numberOfTrailingZeros_0f7a4 (nx := 76) rfl rfl rfl rfl ?_
            refine ev_ic f_J6_numberOfTrailingZeros_0f7a4 (nx := 77) (v := 1) rfl (by decide) rfl ?_
            refine ev_anyIE f_J6_numberOfTrailingZeros_0f7a4 (nx := 78) rfl rfl rfl rfl (fun z96 e96 => ?_)
            refine ev_anyIE f_J6_numberOfTrailingZeros_0f7a4 (nx := 79) rfl rfl rfl rfl (fun z97 e97 => ?_)
            exact ev_ret f_J6_numberOfTrailingZeros_0f7a4 rfl rfl rfl ⟨_, _, _, rfl, hI, hX, ⟨_, rfl, (t_lo z97), (t_hi z97), (show ∀ t : Nat, t ≤ 31 → s_tz ar0.toInt t → z97.toInt = (t : Int) from (by
                                                            intro t ht hz
                                                            have y0 := s_tz_y hz ht e1 e2 e3
                                                            have hyl : z3.toInt < 2147483648 := z3.toInt_lt
                                                            have u32 := t_us (k := 16) e53 (by decide) (by omega)
                                                            obtain ⟨n32, v32⟩ := s_tz_s (n := 16) y0 (by omega) u32
                                                            have u47 := t_us (k := 8) e77 (by decide) (by omega)
                                                            obtain ⟨n47, v47⟩ := s_tz_s (n := 8) v32 (by omega) u47
                                                            have u60 := t_us (k := 4) e89 (by decide) (by omega)
                                                            obtain ⟨n60, v60⟩ := s_tz_s (n := 4) v47 (by omega) u60
                                                            have u72 := t_us (k := 2) e95 (by decide) (by omega)
                                                            obtain ⟨n72, v72⟩ := s_tz_s (n := 2) v60 (by omega) u72
                                                            have ua : (31 : Int32).toInt = 31 := rfl
                                                            have u76 := t_us (k := 1) e96 (by decide) (by omega)
                                                            have us := s_iadd (a := (31 : Int32)) e97 (by omega) (by omega) (by omega) (by omega)
                                                            have p1 : (2 : Int) ^ 1 = 2 := by decide
                                                            rcases s_tz_f v72 (by omega) (by omega) with ⟨h1, h2⟩ | ⟨h1, h2⟩
                                                            · omega
                                                            · omega))⟩⟩
  · have u98 : z3.toInt ≤ 0 := t_leu (t_nlt h4) (by decide : (0:Int32).toInt ≤ (0:Int))
    refine ev_loc f_J6_numberOfTrailingZeros_0f7a4 (nx := 13) rfl rfl rfl rfl ?_
    refine ev_bp f_J6_numberOfTrailingZeros_0f7a4 (nx := 15) (v := 32) rfl (by decide) rfl ?_
    refine ev_anyIE f_J6_numberOfTrailingZeros_0f7a4 (nx := 16) rfl rfl rfl rfl (fun z99 e99 => ?_)
    exact ev_ret f_J6_numberOfTrailingZeros_0f7a4 rfl rfl rfl ⟨_, _, _, rfl, hI, hX, ⟨_, rfl, (t_lo z99), (t_hi z99), (show ∀ t : Nat, t ≤ 31 → s_tz ar0.toInt t → z99.toInt = (t : Int) from (by
                                                            intro t ht hz
                                                            have y0 := s_tz_y hz ht e1 e2 e3
                                                            obtain ⟨ht0, hy0⟩ := s_tz_0 y0 (by omega)
                                                            rw [show z99 = 0 from (by rw [e99, hy0]; rfl), ht0]; rfl))⟩⟩
noncomputable def wl_j_tzl : List (Nat × Nat) := []
noncomputable def Q_j_tzl (gi : Nat → Nat → Int32) (gl : Nat → Nat → Int64) (gr : Nat → Nat → Value) (ar0 : Int64) : Int32 → (Nat → Nat → Int32) → (Nat → Nat → Int64) → (Nat → Nat → Value) → Prop := fun (v : Int32) (gi2 : Nat → Nat → Int32) (gl2 : Nat → Nat → Int64) (gr2 : Nat → Nat → Value) => ∀ t : Nat, t ≤ 33 → s_tz ar0.toInt t → v.toInt = (t : Int)
theorem c_j_tzl {X : x_Ext} {d : Nat} {sh : List (Nat ⊕ (Nat × Nat))} {gi : Nat → Nat → Int32} {gl : Nat → Nat → Int64} {gr : Nat → Nat → Value} (hI : t_I sh gi gr) (ar0 : Int64) : x_Me X (d + 2) n_J13_numberOfTrailingZeros_95d88 [.long ar0] (sh, gi, gl, gr) (t_PI wl_j_tzl sh gi gl gr (-2147483648) 2147483647 (Q_j_tzl gi gl gr ar0)) := by
  have hX : t_X wl_j_tzl sh gi gl gr gi gl gr := t_X.rf
  refine me_s f_J13_numberOfTrailingZeros_95d88 rfl rfl ?_
  refine ev_loc f_J13_numberOfTrailingZeros_95d88 (nx := 1) rfl rfl rfl rfl ?_
  refine ev_anyIE f_J13_numberOfTrailingZeros_95d88 (nx := 2) rfl rfl rfl rfl (fun z1 e1 => ?_)
  refine ev_loc f_J13_numberOfTrailingZeros_95d88 (nx := 3) (lo' := [(2, .int z1), (0, .long ar0)]) rfl rfl rfl rfl ?_
  refine ev_loc f_J13_numberOfTrailingZeros_95d88 (nx := 4) rfl rfl rfl rfl ?_
  refine ev_if f_J13_numberOfTrailingZeros_95d88 (t1 := 7) (t2 := 21) rfl rfl rfl (fun h2 => ?_) (fun h2 => ?_)
  · have u3 : z1.toInt ≤ 0 := t_equ h2 (by decide : (0:Int32).toInt ≤ (0:Int))
    have l4 : 0 ≤ z1.toInt := t_eql h2 (by decide : (0:Int) ≤ (0:Int32).toInt)
    refine ev_bp f_J13_numberOfTrailingZeros_95d88 (nx := 9) (v := 32) rfl (by decide) rfl ?_
    refine ev_loc f_J13_numberOfTrailingZeros_95d88 (nx := 10) rfl rfl rfl rfl ?_
    refine ev_bp f_J13_numberOfTrailingZeros_95d88 (nx := 12) (v := 32) rfl (by decide) rfl ?_
    refine ev_anyLE f_J13_numberOfTrailingZeros_95d88 (nx := 13) rfl rfl rfl rfl (fun z5 e5 => ?_)
    refine ev_anyIE f_J13_numberOfTrailingZeros_95d88 (nx := 14) rfl rfl rfl rfl (fun z6 e6 => ?_)
    refine ev_qI0 f_J13_numberOfTrailingZeros_95d88 (nx := 17) (r := [.int 32]) rfl rfl rfl rfl rfl rfl rfl (c_j_tz hI (z6)) rfl (fun w7 l7 u7 q7 => ?_)
    have q7 : ∀ t : Nat, t ≤ 31 → s_tz z6.toInt t → w7.toInt = (t : Int) := q7
    refine ev_anyIE f_J13_numberOfTrailingZeros_95d88 (nx := 18) rfl rfl rfl rfl (fun z8 e8 => ?_)
    refine ev_jmp f_J13_numberOfTrailingZeros_95d88 (nx := 25) rfl rfl rfl ?_
    exact ev_ret f_J13_numberOfTrailingZeros_95d88 rfl rfl rfl ⟨_, _, _, rfl, hI, hX, ⟨_, rfl, (t_lo z8), (t_hi z8), (show ∀ t : Nat, t ≤ 33 → s_tz ar0.toInt t → z8.toInt = (t : Int) from (by
                                                            intro t ht hz
                                                            have ux := t_l2iB e1
                                                            have h32 : 32 ≤ t := by
                                                              rcases Nat.lt_or_ge 31 t with hh | hh
                                                              · exact hh
                                                              · exact absurd (show Int.bmod ar0.toInt 4294967296 = 0 by omega) (s_tz_ne (s_tz_lo hz hh))
                                                            have hh := s_tz_hi hz h32 (by omega)
                                                            rw [← s_us32 e5 (by decide) e6] at hh
                                                            have hq := q7 (t - 32) (by omega) hh
                                                            have u32 : (32 : Int32).toInt = 32 := rfl
                                                            have ua := s_iadd (a := 32) e8 (by omega) (by omega) (by omega) (by omega)
                                                            omega))⟩⟩
  · have r9 : z1.toInt ≠ 0 := fun e => h2 (Int32.toInt_inj.mp (e.trans (by decide : (0:Int) = (0 : Int32).toInt)))
    refine ev_loc f_J13_numberOfTrailingZeros_95d88 (nx := 22) rfl rfl rfl rfl ?_
    refine ev_qI0 f_J13_numberOfTrailingZeros_95d88 (nx := 25) (r := []) rfl rfl rfl rfl rfl rfl rfl (c_j_tz hI (z1)) rfl (fun w10 l10 u10 q10 => ?_)
    have q10 : ∀ t : Nat, t ≤ 31 → s_tz z1.toInt t → w10.toInt = (t : Int) := q10
    exact ev_ret f_J13_numberOfTrailingZeros_95d88 rfl rfl rfl ⟨_, _, _, rfl, hI, hX, ⟨_, rfl, l10, u10, (show ∀ t : Nat, t ≤ 33 → s_tz ar0.toInt t → w10.toInt = (t : Int) from (by
                                                            intro t ht hz
                                                            have ux := t_l2iB e1
                                                            have h31 : t ≤ 31 := by
                                                              rcases Nat.lt_or_ge 31 t with hh | hh
                                                              · have h0 := s_tz_z hz hh
                                                                omega
                                                              · exact hh
                                                            have hh := s_tz_lo hz h31
                                                            rw [← ux] at hh
                                                            exact q10 t h31 hh))⟩⟩
noncomputable def wl_d_silent : List (Nat × Nat) := [(0, 0)]
noncomputable def Q_d_silent (gi : Nat → Nat → Int32) (gl : Nat → Nat → Int64) (gr : Nat → Nat → Value) : Int32 → (Nat → Nat → Int32) → (Nat → Nat → Int64) → (Nat → Nat → Value) → Prop := fun (v : Int32) (gi2 : Nat → Nat → Int32) (gl2 : Nat → Nat → Int64) (gr2 : Nat → Nat → Value) => ∀ (u : Nat) (D : s_D), gr 0 6 = .ref u → t_VL gr u → t_CV gi gl u D → t_Cb D → ∀ t : Nat, t ≤ 33 → s_tz (-1 - (s_oa D (D 0).toNat).toInt) t → v.toInt = (t : Int)
theorem c_d_silent {X : x_Ext} {d : Nat} {sh : List (Nat ⊕ (Nat × Nat))} {gi : Nat → Nat → Int32} {gl : Nat → Nat → Int64} {gr : Nat → Nat → Value} (hI : t_I sh gi gr) : x_Me X (d + 3) n_X11_silent [.ref 0] (sh, gi, gl, gr) (t_PI wl_d_silent sh gi gl gr (-2147483648) 2147483647 (Q_d_silent gi gl gr)) := by
  have hX : t_X wl_d_silent sh gi gl gr gi gl gr := t_X.rf
  refine me_i f_X11_silent (hI.wf.s rfl) rfl rfl rfl ?_
  refine ev_lc f_X11_silent (nx := 1) (v := 0) rfl (by decide) rfl ?_
  refine ev_loc f_X11_silent (nx := 2) (lo' := [(1, .long 0), (0, .ref 0)]) rfl rfl rfl rfl ?_
  refine ev_ic f_X11_silent (nx := 3) (v := 0) rfl (by decide) rfl ?_
  refine ev_loc f_X11_silent (nx := 4) (lo' := [(3, .int 0), (1, .long 0), (0, .ref 0)]) rfl rfl rfl rfl ?_
  have L1 : ∀ (m1 : Nat) (y1_3 : Int32) (y1_1 : Int64), 0 ≤ y1_3.toInt → y1_3.toInt ≤ 6 → (∀ (u : Nat) (D : s_D), gr 0 6 = .ref u → t_VL gr u → t_CV gi gl u D → t_Cb D → y1_1 = s_oa D y1_3.toNatClampNeg ∧ y1_3.toInt ≤ D 0) → (6 - y1_3.toInt).toNat = m1 → x_Ev X (d + 3) n_X11_silent 4 [(3, .int y1_3), (1, .long y1_1), (0, .ref 0)] [] (sh, gi, gl, gr) (t_PI wl_d_silent sh gi gl gr (-2147483648) 2147483647 (Q_d_silent gi gl gr)) := by
    intro m1
    induction m1 using Nat.strongRecOn with
    | _ m1 ih1 =>
    intro y1_3 y1_1 l1_3 u1_3 j1_0 hm1
    refine ev_loc f_X11_silent (nx := 5) rfl rfl rfl rfl ?_
    refine ev_loc f_X11_silent (nx := 6) rfl rfl rfl rfl ?_
    obtain ⟨a2, e2, p2⟩ := hI.2.2.2.1.1
    refine ev_getR f_X11_silent (nx := 9) rfl (hI.wf.s rfl) rfl rfl e2 rfl rfl ?_
    refine ev_getI f_X11_silent (nx := 12) rfl p2.1 rfl rfl rfl ?_
    obtain ⟨l3, u3⟩ := hI.b p2.1 (t_bdK rfl : t_bd 4 0 = some (0, 6))
    refine ev_if f_X11_silent (t1 := 32) (t2 := 15) rfl rfl rfl (fun h4 => ?_) (fun h4 => ?_)
    · have r5 : (gi a2 0).toInt ≤ y1_3.toInt := Int32.le_iff_toInt_le.mp h4
      refine ev_loc f_X11_silent (nx := 33) rfl rfl rfl rfl ?_
      refine ev_loc f_X11_silent (nx := 34) rfl rfl rfl rfl ?_
      refine ev_ldL f_X11_silent (nx := 37) (v := -1) rfl (by decide) rfl ?_
      refine ev_anyLE f_X11_silent (nx := 38) rfl rfl rfl rfl (fun z6 e6 => ?_)
      refine ev_qI0 f_X11_silent (nx := 41) (r := [.ref 0]) rfl rfl rfl rfl rfl rfl rfl (c_j_tzl hI (z6)) rfl (fun w7 l7 u7 q7 => ?_)
      have q7 : ∀ t : Nat, t ≤ 33 → s_tz z6.toInt t → w7.toInt = (t : Int) := q7
      refine ev_inV2 f_X11_silent (nx := 44) (lo2 := [(0, .ref 0), (1, .int w7)]) rfl rfl rfl rfl f_X11_answer (hI.wf.s rfl) rfl rfl rfl rfl rfl ?_
      refine ev_loc f_X11_answer (nx := 1) rfl rfl rfl rfl ?_
      refine ev_ic f_X11_answer (nx := 2) (v := 0) rfl (by decide) rfl ?_
      refine ev_putIT f_X11_answer (nx := 5) rfl (hI.wf.s rfl) rfl rfl rfl (hI.put0 (hI.wf.s rfl) rfl rfl) (hX.upI rfl) (fun g8 e8 hI hX => ?_)
      refine ev_loc f_X11_answer (nx := 6) rfl rfl rfl rfl ?_
      refine ev_retK1 f_X11_answer rfl rfl rfl ?_
      exact ev_ret f_X11_silent rfl rfl rfl ⟨_, _, _, rfl, hI, hX, ⟨_, rfl, l7, u7, (show ∀ (u : Nat) (D : s_D), gr 0 6 = .ref u → t_VL gr u → t_CV gi gl u D → t_Cb D → ∀ t : Nat, t ≤ 33 → s_tz (-1 - (s_oa D (D 0).toNat).toInt) t → w7.toInt = (t : Int) from (by
                                                            intro u D hu hl hc hb
                                                            obtain ⟨g1, g2⟩ := j1_0 u D hu hl hc hb
                                                            have ha : a2 = u := Value.ref.inj (e2.symm.trans hu)
                                                            subst ha
                                                            have hm := hc.1.1
                                                            have ck := t_clamp (i := y1_3) (by omega)
                                                            intro t ht hz
                                                            rw [show (D 0).toNat = y1_3.toNatClampNeg from (by omega), ← g1] at hz
                                                            exact q7 t ht (by rw [s_xm e6]; exact hz)))⟩⟩
    · have r9 : y1_3.toInt < (gi a2 0).toInt := Int32.lt_iff_toInt_lt.mp (t_nle h4)
      have u10 : y1_3.toInt ≤ 5 := t_ltu (t_nle h4) u3 rfl
      have l11 : 1 ≤ (gi a2 0).toInt := t_ltl (t_nle h4) l1_3 rfl
      refine ev_loc f_X11_silent (nx := 16) rfl rfl rfl rfl ?_
      refine ev_loc f_X11_silent (nx := 17) rfl rfl rfl rfl ?_
      refine ev_getR f_X11_silent (nx := 20) (v := .ref a2) rfl (hI.wf.s rfl) rfl rfl e2 rfl rfl ?_
      refine ev_loc f_X11_silent (nx := 21) rfl rfl rfl rfl ?_
      refine ev_qL0 f_X11_silent (nx := 24) (r := [.long y1_1]) rfl rfl rfl rfl rfl rfl rfl (c_d_heardOf hI (a2) p2 (y1_3)) rfl (fun w12 q12 => ?_)
      have q12 : ∀ D : s_D, t_VL gr a2 → t_CV gi gl a2 D → w12 = s_hd D y1_3.toInt := q12
      refine ev_anyLE f_X11_silent (nx := 25) rfl rfl rfl rfl (fun z13 e13 => ?_)
      refine ev_loc f_X11_silent (nx := 26) (lo' := [(1, .long z13), (3, .int y1_3), (0, .ref 0)]) rfl rfl rfl rfl ?_
      refine ev_incR f_X11_silent (nx := 29) (c := 1) (l := 1) (u := 6) rfl rfl (by decide) (by decide) l1_3 u10 rfl rfl (by decide) (by decide) rfl (fun z14 e14 l14 u14 => ?_)
      refine ev_jmp f_X11_silent (nx := 4) rfl rfl rfl ?_
      refine ev_sub (lo := [(3, .int z14), (1, .long z13), (0, .ref 0)]) rfl (t_sc rfl (t_sc rfl (t_sc rfl t_sn))) ?_
      exact ih1 _ (by omega) (z14) (z13) (Int.le_trans (by decide : (0:Int) ≤ 1) l14) u14 (by
                                                            intro u D hu hl hc hb
                                                            obtain ⟨g1, g2⟩ := j1_0 u D hu hl hc hb
                                                            have ha : a2 = u := Value.ref.inj (e2.symm.trans hu)
                                                            subst ha
                                                            have hm := hc.1.1
                                                            exact ⟨s_oa_s g1 (by omega) (q12 D hl hc) e13 (by omega), by omega⟩) rfl
  refine ev_sub (lo := [(3, .int 0), (1, .long 0), (0, .ref 0)]) rfl (t_sc rfl (t_sc rfl (t_sc rfl t_sn))) ?_
  exact L1 _ (0) (0) (by decide : (0:Int) ≤ (0:Int32).toInt) (Int.le_trans (by decide : (0:Int32).toInt ≤ (0:Int)) (by decide : (0:Int) ≤ 6)) (fun u D hu hl hc hb => ⟨rfl, by have z0 : (0 : Int32).toInt = 0 := rfl; have := hb.1.1; omega⟩) rfl
noncomputable def wl_e_silent : List (Nat × Nat) := [(69, 2)]
noncomputable def Q_e_silent (gi : Nat → Nat → Int32) (gl : Nat → Nat → Int64) (gr : Nat → Nat → Value) : Int32 → (Nat → Nat → Int32) → (Nat → Nat → Int64) → (Nat → Nat → Value) → Prop := fun (v : Int32) (gi2 : Nat → Nat → Int32) (gl2 : Nat → Nat → Int64) (gr2 : Nat → Nat → Value) => ∀ D : s_D, t_ME 0 gi D → t_Cb D → ∃ t : Nat, t ≤ 33 ∧ s_tz (-1 - (s_oa D (D 0).toNat).toInt) t ∧ v.toInt = (t : Int)
theorem c_e_silent {X : x_Ext} {d : Nat} {sh : List (Nat ⊕ (Nat × Nat))} {gi : Nat → Nat → Int32} {gl : Nat → Nat → Int64} {gr : Nat → Nat → Value} (hI : t_I sh gi gr) : x_Me X (d + 4) n_X12_silent [.ref 69] (sh, gi, gl, gr) (t_PI wl_e_silent sh gi gl gr 0 33 (Q_e_silent gi gl gr)) := by
  have hX : t_X wl_e_silent sh gi gl gr gi gl gr := t_X.rf
  refine me_i f_X12_silent (hI.wf.s rfl) rfl rfl rfl ?_
  refine ev_lc f_X12_silent (nx := 1) (v := 0) rfl (by decide) rfl ?_
  refine ev_loc f_X12_silent (nx := 2) (lo' := [(1, .long 0), (0, .ref 69)]) rfl rfl rfl rfl ?_
  refine ev_ic f_X12_silent (nx := 3) (v := 0) rfl (by decide) rfl ?_
  refine ev_loc f_X12_silent (nx := 4) (lo' := [(3, .int 0), (1, .long 0), (0, .ref 69)]) rfl rfl rfl rfl ?_
  have L1 : ∀ (m1 : Nat) (y1_3 : Int32) (y1_1 : Int64), 0 ≤ y1_3.toInt → y1_3.toInt ≤ 6 → 0 ≤ y1_1.toInt ∧ y1_1.toInt < 8589934592 → (∀ D : s_D, t_ME 0 gi D → t_Cb D → y1_1 = s_oa D y1_3.toNatClampNeg ∧ y1_3.toInt ≤ D 0) → (6 - y1_3.toInt).toNat = m1 → x_Ev X (d + 4) n_X12_silent 4 [(3, .int y1_3), (1, .long y1_1), (0, .ref 69)] [] (sh, gi, gl, gr) (t_PI wl_e_silent sh gi gl gr 0 33 (Q_e_silent gi gl gr)) := by
    intro m1
    induction m1 using Nat.strongRecOn with
    | _ m1 ih1 =>
    intro y1_3 y1_1 l1_3 u1_3 j1_0 j1_1 hm1
    refine ev_loc f_X12_silent (nx := 5) rfl rfl rfl rfl ?_
    refine ev_loc f_X12_silent (nx := 6) rfl rfl rfl rfl ?_
    refine ev_getR f_X12_silent (nx := 9) rfl (hI.wf.s rfl) rfl rfl (hI.wf.r rfl) rfl rfl ?_
    refine ev_ic f_X12_silent (nx := 10) (v := 0) rfl (by decide) rfl ?_
    obtain ⟨l2, u2⟩ := hI.ab (by decide +kernel : t_abr 70 0 0 0 6 = true) (Nat.le_refl _) (Nat.le_refl _)
    refine ev_ialdv f_X12_silent (nx := 11) (w := (gi 70 0)) rfl (hI.wf.s rfl) (by decide) (rfl : (0 : Int32).toNatClampNeg = 0) (by decide) rfl rfl ?_
    refine ev_if f_X12_silent (t1 := 28) (t2 := 14) rfl rfl rfl (fun h3 => ?_) (fun h3 => ?_)
    · have r4 : (gi 70 0).toInt ≤ y1_3.toInt := Int32.le_iff_toInt_le.mp h3
      refine ev_ic f_X12_silent (nx := 29) (v := 0) rfl (by decide) rfl ?_
      refine ev_loc f_X12_silent (nx := 30) (lo' := [(3, .int 0), (1, .long y1_1), (0, .ref 69)]) rfl rfl rfl rfl ?_
      have L5 : ∀ (m5 : Nat) (y5_3 : Int32), 0 ≤ y5_3.toInt → y5_3.toInt ≤ 33 → 0 ≤ y1_1.toInt ∧ y1_1.toInt < 8589934592 → (∀ D : s_D, t_ME 0 gi D → t_Cb D → y1_1 = s_oa D (D 0).toNat ∧ s_mz (-1 - y1_1.toInt) y5_3.toNatClampNeg) → (34 - y5_3.toInt).toNat = m5 → x_Ev X (d + 4) n_X12_silent 30 [(3, .int y5_3), (1, .long y1_1), (0, .ref 69)] [] (sh, gi, gl, gr) (t_PI wl_e_silent sh gi gl gr 0 33 (Q_e_silent gi gl gr)) := by
        intro m5
        induction m5 using Nat.strongRecOn with
        | _ m5 ih5 =>
        intro y5_3 l5_3 u5_3 j5_0 j5_1 hm5
        refine ev_loc f_X12_silent (nx := 31) rfl rfl rfl rfl ?_
        refine ev_loc f_X12_silent (nx := 32) rfl rfl rfl rfl ?_
        refine ev_anyLE f_X12_silent (nx := 33) rfl rfl rfl rfl (fun z6 e6 => ?_)
        refine ev_lc f_X12_silent (nx := 34) (v := 1) rfl (by decide) rfl ?_
        refine ev_anyLE f_X12_silent (nx := 35) rfl rfl rfl rfl (fun z7 e7 => ?_)
        refine ev_lc f_X12_silent (nx := 36) (v := 1) rfl (by decide) rfl ?_
        refine ev_anyIE f_X12_silent (nx := 37) rfl rfl rfl rfl (fun z8 e8 => ?_)
        refine ev_if f_X12_silent (t1 := 40) (t2 := 46) rfl rfl rfl (fun h9 => ?_) (fun h9 => ?_)
        · have u10 : z8.toInt ≤ 0 := t_equ h9 (by decide : (0:Int32).toInt ≤ (0:Int))
          have l11 : 0 ≤ z8.toInt := t_eql h9 (by decide : (0:Int) ≤ (0:Int32).toInt)
          refine ev_incR f_X12_silent (nx := 43) (c := 1) (l := 1) (u := 34) rfl rfl (by decide) (by decide) l5_3 u5_3 rfl rfl (by decide) (by decide) rfl (fun z12 e12 l12 u12 => ?_)
          refine ev_jmp f_X12_silent (nx := 30) rfl rfl rfl ?_
          have hs13 : y5_3.toInt ≤ 32 := t_sil e6 e7 e8 h9 (by omega) (by omega)
          refine ev_sub (lo := [(3, .int z12), (1, .long y1_1), (0, .ref 69)]) rfl (t_sc rfl (t_sc rfl (t_sc rfl t_sn))) ?_
          exact ih5 _ (by omega) (z12) (Int.le_trans (by decide : (0:Int) ≤ 1) l12) (by omega : z12.toInt ≤ (33:Int)) (by omega) (by
                                                            intro D hm hb
                                                            obtain ⟨g1, g2⟩ := j5_1 D hm hb
                                                            have hs := (s_mz_s g2 (by omega) (by omega) e6 e7).1 ((lg_cmp_eq _ _).mp (e8.symm.trans h9))
                                                            have c1 := t_clamp (i := y5_3) (by omega)
                                                            have c2 := t_clamp (i := z12) (by omega)
                                                            exact ⟨g1, by rw [show z12.toNatClampNeg = y5_3.toNatClampNeg + 1 by omega]; exact hs⟩) rfl
        · have r14 : z8.toInt ≠ 0 := fun e => h9 (Int32.toInt_inj.mp (e.trans (by decide : (0:Int) = (0 : Int32).toInt)))
          refine ev_loc f_X12_silent (nx := 47) rfl rfl rfl rfl ?_
          refine ev_loc f_X12_silent (nx := 48) rfl rfl rfl rfl ?_
          refine ev_inV2 f_X12_silent (nx := 51) (lo2 := [(0, .ref 69), (1, .int y5_3)]) rfl rfl rfl rfl f_X12_gives (hI.wf.s rfl) rfl rfl rfl rfl rfl ?_
          refine ev_loc f_X12_gives (nx := 1) rfl rfl rfl rfl ?_
          refine ev_ic f_X12_gives (nx := 2) (v := 0) rfl (by decide) rfl ?_
          refine ev_putIT f_X12_gives (nx := 5) rfl (hI.wf.s rfl) rfl rfl rfl (hI.put0 (hI.wf.s rfl) rfl rfl) (hX.upI rfl) (fun g15 e15 hI hX => ?_)
          refine ev_loc f_X12_gives (nx := 6) rfl rfl rfl rfl ?_
          refine ev_retK1 f_X12_gives rfl rfl rfl ?_
          exact ev_ret f_X12_silent rfl rfl rfl ⟨_, _, _, rfl, hI, hX, ⟨_, rfl, l5_3, u5_3, (show ∀ D : s_D, t_ME 0 gi D → t_Cb D → ∃ t : Nat, t ≤ 33 ∧ s_tz (-1 - (s_oa D (D 0).toNat).toInt) t ∧ y5_3.toInt = (t : Int) from (by
                                                            intro D hm hb
                                                            obtain ⟨g1, g2⟩ := j5_1 D hm hb
                                                            have hs := (s_mz_s g2 (by omega) (by omega) e6 e7).2 (fun hh => h9 (e8.trans ((lg_cmp_eq _ _).mpr hh)))
                                                            have c1 := t_clamp (i := y5_3) (by omega)
                                                            exact ⟨y5_3.toNatClampNeg, by omega, by rw [← g1]; exact hs, by omega⟩))⟩⟩
      refine ev_sub (lo := [(3, .int 0), (1, .long y1_1), (0, .ref 69)]) rfl (t_sc rfl (t_sc rfl (t_sc rfl t_sn))) ?_
      exact L5 _ (0) (by decide : (0:Int) ≤ (0:Int32).toInt) (Int.le_trans (by decide : (0:Int32).toInt ≤ (0:Int)) (by decide : (0:Int) ≤ 33)) (by omega) (by
                                                            intro D hm hb
                                                            obtain ⟨g1, g2⟩ := j1_1 D hm hb
                                                            have h0 : (gi 70 0).toInt = D 0 := hm.1.1.1
                                                            have ck := t_clamp (i := y1_3) (by omega)
                                                            exact ⟨by rw [show (D 0).toNat = y1_3.toNatClampNeg from (by omega)]; exact g1, s_mz_0 _⟩) rfl
    · have r16 : y1_3.toInt < (gi 70 0).toInt := Int32.lt_iff_toInt_lt.mp (t_nle h3)
      have u17 : y1_3.toInt ≤ 5 := t_ltu (t_nle h3) u2 rfl
      have l18 : 1 ≤ (gi 70 0).toInt := t_ltl (t_nle h3) l1_3 rfl
      refine ev_loc f_X12_silent (nx := 15) rfl rfl rfl rfl ?_
      refine ev_loc f_X12_silent (nx := 16) rfl rfl rfl rfl ?_
      refine ev_loc f_X12_silent (nx := 17) rfl rfl rfl rfl ?_
      refine ev_qL0 f_X12_silent (nx := 20) (r := [.long y1_1]) rfl rfl rfl rfl rfl rfl rfl (c_n_heardOf hI (y1_3) l1_3 u17) rfl (fun w19 q19 => ?_)
      have q19 : (0 ≤ w19.toInt ∧ w19.toInt < 8589934592) ∧ ∀ D : s_D, t_ME 0 gi D → y1_3.toInt < D 0 → w19 = s_ec (s_so D y1_3.toNatClampNeg) (D 7) := q19
      refine ev_anyLE f_X12_silent (nx := 21) rfl rfl rfl rfl (fun z20 e20 => ?_)
      refine ev_loc f_X12_silent (nx := 22) (lo' := [(1, .long z20), (3, .int y1_3), (0, .ref 69)]) rfl rfl rfl rfl ?_
      refine ev_incR f_X12_silent (nx := 25) (c := 1) (l := 1) (u := 6) rfl rfl (by decide) (by decide) l1_3 u17 rfl rfl (by decide) (by decide) rfl (fun z21 e21 l21 u21 => ?_)
      refine ev_jmp f_X12_silent (nx := 4) rfl rfl rfl ?_
      refine ev_sub (lo := [(3, .int z21), (1, .long z20), (0, .ref 69)]) rfl (t_sc rfl (t_sc rfl (t_sc rfl t_sn))) ?_
      exact ih1 _ (by omega) (z21) (z20) (Int.le_trans (by decide : (0:Int) ≤ 1) l21) u21 (t_or33 e20 (by omega) (by omega)) (by
                                                            intro D hm hb
                                                            obtain ⟨g1, g2⟩ := j1_1 D hm hb
                                                            have h0 : (gi 70 0).toInt = D 0 := hm.1.1.1
                                                            have hw := (q19.2 D hm (by omega)).trans ((s_hd_i (D := D) (p := y1_3.toInt) (by omega) (by omega)).trans (by rw [show y1_3.toInt.toNat = y1_3.toNatClampNeg from (by have := t_clamp (i := y1_3) (by omega); omega)])).symm
                                                            exact ⟨s_oa_s g1 (by omega) hw e20 (by omega), by omega⟩) rfl
  refine ev_sub (lo := [(3, .int 0), (1, .long 0), (0, .ref 69)]) rfl (t_sc rfl (t_sc rfl (t_sc rfl t_sn))) ?_
  exact L1 _ (0) (0) (by decide : (0:Int) ≤ (0:Int32).toInt) (Int.le_trans (by decide : (0:Int32).toInt ≤ (0:Int)) (by decide : (0:Int) ≤ 6)) (by decide) (fun D hm hb => ⟨rfl, by have z0 : (0 : Int32).toInt = 0 := rfl; have := hb.1.1; omega⟩) rfl
/-! ===== silent: the answers are alike ===== -/
section SILL
variable {sh : List (Nat ⊕ (Nat × Nat))} {gi g1 g2 : Nat → Nat → Int32} {gl l1 l2 : Nat → Nat → Int64} {gr r1 r2 : Nat → Nat → Value} {w1 : List (Nat × Nat)} {x1 x2 : Int32}
theorem t_L_silent (hD : t_DR sh.length gi gl gr) (f1 : t_F w1 gi gl gr g1 l1 r1) (h70 : t_nc w1 70 = true) (q1 : Q_d_silent gi gl gr x1 g1 l1 r1) (q2 : Q_e_silent g1 l1 r1 x2 g2 l2 r2) : x1 = x2 := by
  obtain ⟨u, D, hu, hl, hc, hb, hm, -⟩ := t_D_0 hD f1 h70
  obtain ⟨t, a, b, c⟩ := q2 D hm hb
  have k := q1 u D hu hl hc hb t a b
  exact Int32.toInt_inj.mp (by omega)
end SILL
/-! ===== how many BEATS differ: how many bits a number has, eight by eight ===== -/
noncomputable def v_b1 (c : Nat) : Nat := c - ((c / 2) &&& 85)
noncomputable def v_b2 (c : Nat) : Nat := (c &&& 51) + ((c / 4) &&& 51)
noncomputable def v_b3 (c : Nat) : Nat := (c + c / 16) &&& 15
noncomputable def v_hb (c : Nat) : Nat := v_b3 (v_b2 (v_b1 c))
noncomputable def v_mk (b : Nat) : Nat → Nat
  | 0 => 0
  | n + 1 => b + 256 * v_mk b n
noncomputable def v_by (f : Nat → Nat) : Nat → Nat → Nat
  | 0, _ => 0
  | n + 1, x => f (x % 256) + 256 * v_by f n (x / 256)
noncomputable def v_pS : Nat → Nat → Nat
  | 0, _ => 0
  | n + 1, x => v_hb (x % 256) + v_pS n (x / 256)
theorem v_and8 (x y : Nat) : x &&& y = ((x % 256) &&& (y % 256)) + 256 * ((x / 256) &&& (y / 256)) := by
  have h1 : (x &&& y) % 2 ^ 8 = (x % 2 ^ 8) &&& (y % 2 ^ 8) := Nat.and_mod_two_pow
  have h2 : (x &&& y) / 2 ^ 8 = (x / 2 ^ 8) &&& (y / 2 ^ 8) := Nat.and_div_two_pow
  have h3 := Nat.div_add_mod (x &&& y) 256
  have e : (2 : Nat) ^ 8 = 256 := by decide
  rw [e] at h1 h2
  rw [← h1, ← h2]; omega
theorem v_andM (x b m : Nat) (hb : b < 256) : x &&& (b + 256 * m) = ((x % 256) &&& b) + 256 * ((x / 256) &&& m) := by
  rw [v_and8, show (b + 256 * m) % 256 = b by omega, show (b + 256 * m) / 256 = m by omega]
theorem v_k1 : ∀ a : Nat, a < 256 → (a &&& 85) = (a % 128 &&& 85) := by decide +kernel
theorem v_k2 : ∀ a : Nat, a < 256 → (a &&& 51) = (a % 64 &&& 51) := by decide +kernel
theorem v_k3 : ∀ a : Nat, a < 256 → (a &&& 15) = a % 16 := by decide +kernel
theorem v_k4 : ∀ c : Nat, c < 256 → v_b1 c < 256 ∧ v_b2 (v_b1 c) ≤ 68 ∧ v_b2 (v_b1 c) % 16 ≤ 4 ∧ v_b2 (v_b1 c) / 16 ≤ 4 ∧ v_hb c ≤ 8 ∧ (c / 2 &&& 85) ≤ c := by decide +kernel
theorem v_k5 : ∀ c : Nat, c < 256 → c ≠ 0 → v_hb (c &&& (c - 1)) + 1 = v_hb c := by decide +kernel
theorem v_dv {y b R B : Nat} (e : y = b + B * R) (h : b < B) : y / B = R := by
  rw [e, Nat.add_mul_div_left _ _ (by omega), Nat.div_eq_of_lt h, Nat.zero_add]
theorem v_st1 : ∀ (n x : Nat), ((x / 2) &&& v_mk 85 n) ≤ x ∧ (x < 256 ^ n → x - ((x / 2) &&& v_mk 85 n) = v_by v_b1 n x)
  | 0, x => ⟨by show (x / 2 &&& 0) ≤ x; rw [Nat.and_zero]; omega, fun h => by
      have h : x < 1 := h
      show x - _ = 0; omega⟩
  | n + 1, x => by
    obtain ⟨i1, i2⟩ := v_st1 n (x / 256)
    have hk := v_k1 (x / 2 % 256) (by omega)
    have h4 := (v_k4 (x % 256) (by omega)).2.2.2.2.2
    have e : x / 2 &&& v_mk 85 (n + 1) = ((x % 256) / 2 &&& 85) + 256 * ((x / 256) / 2 &&& v_mk 85 n) := by
      show x / 2 &&& (85 + 256 * v_mk 85 n) = _
      rw [v_andM _ _ _ (by decide), hk, show x / 2 % 256 % 128 = x % 256 / 2 by omega, show x / 2 / 256 = x / 256 / 2 by omega]
    rw [e]
    refine ⟨by omega, fun h => ?_⟩
    have h5 : x / 256 < 256 ^ n := by rw [Nat.pow_succ] at h; omega
    have i3 := i2 h5
    show _ = (x % 256 - ((x % 256) / 2 &&& 85)) + 256 * v_by v_b1 n (x / 256)
    omega
theorem v_st2 : ∀ (n x : Nat), (v_by v_b1 n x &&& v_mk 51 n) + ((v_by v_b1 n x / 4) &&& v_mk 51 n) = v_by (fun c => v_b2 (v_b1 c)) n x
  | 0, x => by show (0 &&& 0) + (0 / 4 &&& 0) = 0; rfl
  | n + 1, x => by
    have i1 := v_st2 n (x / 256)
    obtain ⟨h4, -⟩ := v_k4 (x % 256) (by omega)
    generalize hy : v_by v_b1 n (x / 256) = y at i1
    have e0 : v_by v_b1 (n + 1) x = v_b1 (x % 256) + 256 * y := by show v_b1 (x % 256) + 256 * v_by v_b1 n (x / 256) = _; rw [hy]
    have e1 : v_mk 51 (n + 1) = 51 + 256 * v_mk 51 n := rfl
    have e2 : v_by (fun c => v_b2 (v_b1 c)) (n + 1) x = v_b2 (v_b1 (x % 256)) + 256 * v_by (fun c => v_b2 (v_b1 c)) n (x / 256) := rfl
    rw [e0, e1, e2, ← i1]
    generalize v_b1 (x % 256) = c at h4 ⊢
    have hk := v_k2 ((c + 256 * y) / 4 % 256) (by omega)
    rw [v_andM _ _ _ (by decide), v_andM _ _ _ (by decide), hk, show (c + 256 * y) / 4 % 256 % 64 = c / 4 by omega, show (c + 256 * y) / 4 / 256 = y / 4 by omega, show (c + 256 * y) % 256 = c by omega, show (c + 256 * y) / 256 = y by omega]
    unfold v_b2
    omega
theorem v_st3 : ∀ (n x : Nat), (v_by (fun c => v_b2 (v_b1 c)) n x + v_by (fun c => v_b2 (v_b1 c)) n x / 16) &&& v_mk 15 n = v_by v_hb n x ∧ v_by (fun c => v_b2 (v_b1 c)) n x % 16 ≤ 4
  | 0, x => ⟨by show (0 + 0 / 16) &&& 0 = 0; decide, by show 0 % 16 ≤ 4; omega⟩
  | n + 1, x => by
    obtain ⟨i1, i2⟩ := v_st3 n (x / 256)
    obtain ⟨-, h4, h5, h6, -⟩ := v_k4 (x % 256) (by omega)
    generalize hy : v_by (fun c => v_b2 (v_b1 c)) n (x / 256) = y at i1 i2
    have e0 : v_by (fun c => v_b2 (v_b1 c)) (n + 1) x = v_b2 (v_b1 (x % 256)) + 256 * y := by show v_b2 (v_b1 (x % 256)) + 256 * v_by (fun c => v_b2 (v_b1 c)) n (x / 256) = _; rw [hy]
    have e1 : v_mk 15 (n + 1) = 15 + 256 * v_mk 15 n := rfl
    have e2 : v_by v_hb (n + 1) x = v_b3 (v_b2 (v_b1 (x % 256))) + 256 * v_by v_hb n (x / 256) := rfl
    rw [e0, e1, e2, ← i1]
    generalize v_b2 (v_b1 (x % 256)) = c at h4 h5 h6 ⊢
    refine ⟨?_, by omega⟩
    have hk := v_k3 ((c + 256 * y + (c + 256 * y) / 16) % 256) (by omega)
    have hk2 := v_k3 (c + c / 16) (by omega)
    have hq : (c + 256 * y) / 16 = c / 16 + 16 * y := by omega
    have hs : c + 256 * y + (c + 256 * y) / 16 = (c + c / 16 + 16 * (y % 16)) + 256 * (y + y / 16) := by rw [hq]; omega
    have hl : c + c / 16 + 16 * (y % 16) < 256 := by omega
    have hd := v_dv hs hl
    have hm : (c + 256 * y + (c + 256 * y) / 16) % 256 % 16 = (c + c / 16) % 16 := by
      rw [hs, Nat.add_mul_mod_self_left, Nat.mod_eq_of_lt hl]; omega
    unfold v_b3
    rw [v_andM _ _ _ (by decide), hk, hk2, hd, hm]
theorem v_hb8 (x : Nat) : v_hb (x % 256) ≤ 8 := (v_k4 (x % 256) (by omega)).2.2.2.2.1
theorem v_pS8 (x : Nat) : v_pS 8 x ≤ 64 := by
  unfold v_pS v_pS v_pS v_pS v_pS v_pS v_pS v_pS v_pS
  have h0 := v_hb8 x
  have h1 := v_hb8 (x / 256)
  have h2 := v_hb8 (x / 256 / 256)
  have h3 := v_hb8 (x / 256 / 256 / 256)
  have h4 := v_hb8 (x / 256 / 256 / 256 / 256)
  have h5 := v_hb8 (x / 256 / 256 / 256 / 256 / 256)
  have h6 := v_hb8 (x / 256 / 256 / 256 / 256 / 256 / 256)
  have h7 := v_hb8 (x / 256 / 256 / 256 / 256 / 256 / 256 / 256)
  omega
theorem v_fin {b0 b1 b2 b3 b4 b5 b6 b7 R1 R2 R3 R4 R5 R6 y3 y4 y5 y6 : Nat} (h0 : b0 ≤ 8) (h1 : b1 ≤ 8) (h2 : b2 ≤ 8) (h3 : b3 ≤ 8) (h4 : b4 ≤ 8) (h5 : b5 ≤ 8) (h6 : b6 ≤ 8) (h7 : b7 ≤ 8)
    (e3 : y3 = b0 + 256 * R1) (r1 : R1 = b1 + 256 * R2) (r2 : R2 = b2 + 256 * R3) (r3 : R3 = b3 + 256 * R4) (r4 : R4 = b4 + 256 * R5) (r5 : R5 = b5 + 256 * R6) (r6 : R6 = b6 + 256 * b7)
    (e4 : y4 = y3 + y3 / 256) (e5 : y5 = y4 + y4 / 65536) (e6 : y6 = y5 + y5 / 4294967296) : y6 % 128 = b0 + (b1 + (b2 + (b3 + (b4 + (b5 + (b6 + b7)))))) ∧ y6 < 2 ^ 63 := by
  rw [v_dv e3 (by omega)] at e4
  have d4 : y4 = (b0 + b1 + 256 * (b1 + b2)) + 65536 * (R2 + R3) := by omega
  rw [v_dv d4 (by omega)] at e5
  have d5 : y5 = (b0 + b1 + 256 * (b1 + b2) + (b2 + b3) + 256 * (b3 + b4) + 65536 * (b4 + b5 + 256 * (b5 + b6) + (b2 + b3) + 256 * (b3 + b4))) + 4294967296 * (R4 + R5 + (R6 + b7)) := by omega
  rw [v_dv d5 (by omega)] at e6
  have d6 : y6 = (b0 + (b1 + (b2 + (b3 + (b4 + (b5 + (b6 + b7))))))) + 128 * (2 * (b1 + b2) + 2 * (b3 + b4) + 512 * (b4 + b5 + 256 * (b5 + b6) + (b2 + b3) + 256 * (b3 + b4)) + 33554432 * (R4 + R5 + (R6 + b7)) + 2 * R5 + 2 * R6 + 2 * b7) := by omega
  constructor
  · rw [d6]; omega
  · omega
theorem v_by8 (x : Nat) : v_by v_hb 8 x = v_hb (x % 256) + 256 * (v_hb (x / 256 % 256) + 256 * (v_hb (x / 256 / 256 % 256) + 256 * (v_hb (x / 256 / 256 / 256 % 256) + 256 * (v_hb (x / 256 / 256 / 256 / 256 % 256) + 256 * (v_hb (x / 256 / 256 / 256 / 256 / 256 % 256) + 256 * (v_hb (x / 256 / 256 / 256 / 256 / 256 / 256 % 256) + 256 * (v_hb (x / 256 / 256 / 256 / 256 / 256 / 256 / 256 % 256)))))))) := rfl
theorem v_pS8e (x : Nat) : v_pS 8 x = v_hb (x % 256) + (v_hb (x / 256 % 256) + (v_hb (x / 256 / 256 % 256) + (v_hb (x / 256 / 256 / 256 % 256) + (v_hb (x / 256 / 256 / 256 / 256 % 256) + (v_hb (x / 256 / 256 / 256 / 256 / 256 % 256) + (v_hb (x / 256 / 256 / 256 / 256 / 256 / 256 % 256) + (v_hb (x / 256 / 256 / 256 / 256 / 256 / 256 / 256 % 256)))))))) := rfl
theorem v_bcN {x y1 y2 y3 y4 y5 y6 : Nat} (hx : x < 2 ^ 64) (e1 : y1 = x - ((x / 2) &&& 6148914691236517205)) (e2 : y2 = (y1 &&& 3689348814741910323) + ((y1 / 4) &&& 3689348814741910323)) (e3 : y3 = (y2 + y2 / 16) &&& 1085102592571150095) (e4 : y4 = y3 + y3 / 256) (e5 : y5 = y4 + y4 / 65536) (e6 : y6 = y5 + y5 / 4294967296) : y6 % 128 = v_pS 8 x ∧ y6 < 2 ^ 63 := by
  have m1 : v_mk 85 8 = 6148914691236517205 := by decide +kernel
  have m2 : v_mk 51 8 = 3689348814741910323 := by decide +kernel
  have m3 : v_mk 15 8 = 1085102592571150095 := by decide +kernel
  rw [← m1] at e1
  rw [← m2] at e2
  rw [← m3] at e3
  rw [(v_st1 8 x).2 hx] at e1
  rw [e1, v_st2] at e2
  rw [e2, (v_st3 8 x).1, v_by8] at e3
  have h := v_fin (v_hb8 x) (v_hb8 _) (v_hb8 _) (v_hb8 _) (v_hb8 _) (v_hb8 _) (v_hb8 _) (v_hb8 _) e3 rfl rfl rfl rfl rfl rfl e4 e5 e6
  rw [v_pS8e]
  exact h
/-- the lowest bit taken -/
theorem v_pS_s : ∀ (n k : Nat), k < 256 ^ n → k ≠ 0 → v_pS n (k &&& (k - 1)) + 1 = v_pS n k
  | 0, k, h, h0 => absurd (show k < 1 from h) (by omega)
  | n + 1, k, h, h0 => by
    have h5 : k / 256 < 256 ^ n := by rw [Nat.pow_succ] at h; omega
    have ha := v_and8 k (k - 1)
    show v_hb ((k &&& (k - 1)) % 256) + v_pS n ((k &&& (k - 1)) / 256) + 1 = v_hb (k % 256) + v_pS n (k / 256)
    by_cases hc : k % 256 = 0
    · have hk : k / 256 ≠ 0 := by omega
      have hi := v_pS_s n (k / 256) h5 hk
      rw [hc, show (k - 1) / 256 = k / 256 - 1 by omega, Nat.zero_and] at ha
      rw [ha, hc, show (0 + 256 * (k / 256 &&& k / 256 - 1)) % 256 = 0 by omega, show (0 + 256 * (k / 256 &&& k / 256 - 1)) / 256 = (k / 256 &&& k / 256 - 1) by omega]
      omega
    · have h6 := v_k5 (k % 256) (by omega) hc
      have h7 : (k % 256 &&& (k % 256 - 1)) ≤ k % 256 := Nat.and_le_left
      rw [show (k - 1) / 256 = k / 256 by omega, show (k - 1) % 256 = k % 256 - 1 by omega, Nat.and_self] at ha
      rw [ha, show ((k % 256 &&& k % 256 - 1) + 256 * (k / 256)) % 256 = (k % 256 &&& k % 256 - 1) by omega, show ((k % 256 &&& k % 256 - 1) + 256 * (k / 256)) / 256 = k / 256 by omega]
      omega
theorem v_pS_0 : v_pS 8 0 = 0 := by decide +kernel
/-! ===== as the machines count them ===== -/
section BCT
variable {x y z w a b c : Int64} {n : Nat}
theorem v_uN {k : Nat} {q : UInt64} (e : z = (x.toUInt64 >>> q).toInt64) (hq : (q.toBitVec % 64).toNat = k) : z.toBitVec.toNat = x.toBitVec.toNat / 2 ^ k := by
  rw [e, ← hq]
  show (x.toBitVec >>> (q.toBitVec % 64).toNat).toNat = _
  rw [BitVec.toNat_ushiftRight, Nat.shiftRight_eq_div_pow]
theorem v_aN {m : Int64} {k : Nat} (e : z = x &&& m) (hm : m.toBitVec.toNat = k) : z.toBitVec.toNat = x.toBitVec.toNat &&& k := by
  rw [e, Int64.toBitVec_and, BitVec.toNat_and, hm]
theorem v_pN (e : z = x + y) (h : x.toBitVec.toNat + y.toBitVec.toNat < 2 ^ 64) : z.toBitVec.toNat = x.toBitVec.toNat + y.toBitVec.toNat := by
  rw [e, Int64.toBitVec_add, BitVec.toNat_add, Nat.mod_eq_of_lt h]
theorem v_mN (e : z = x - y) (h : y.toBitVec.toNat ≤ x.toBitVec.toNat) : z.toBitVec.toNat = x.toBitVec.toNat - y.toBitVec.toNat := by
  rw [e, Int64.toBitVec_sub, BitVec.toNat_sub]
  have := x.toBitVec.isLt
  have := y.toBitVec.isLt
  omega
theorem v_bcI {a1 a2 y1 b1 b2 b3 y2 c1 c2 y3 d1 y4 f1 y5 g1 y6 : Int64} {i v : Int32} {q1 q2 q4 q8 q16 q32 : UInt64}
    (h1 : a1 = (x.toUInt64 >>> q1).toInt64) (h2 : a2 = a1 &&& 6148914691236517205) (h3 : y1 = x - a2)
    (h4 : b1 = y1 &&& 3689348814741910323) (h5 : b2 = (y1.toUInt64 >>> q2).toInt64) (h6 : b3 = b2 &&& 3689348814741910323) (h7 : y2 = b1 + b3)
    (h8 : c1 = (y2.toUInt64 >>> q4).toInt64) (h9 : c2 = y2 + c1) (h10 : y3 = c2 &&& 1085102592571150095)
    (h11 : d1 = (y3.toUInt64 >>> q8).toInt64) (h12 : y4 = y3 + d1) (h13 : f1 = (y4.toUInt64 >>> q16).toInt64) (h14 : y5 = y4 + f1) (h15 : g1 = (y5.toUInt64 >>> q32).toInt64) (h16 : y6 = y5 + g1) (h17 : i = y6.toInt32) (h18 : v = i &&& 127)
    (k1 : (q1.toBitVec % 64).toNat = 1) (k2 : (q2.toBitVec % 64).toNat = 2) (k4 : (q4.toBitVec % 64).toNat = 4) (k8 : (q8.toBitVec % 64).toNat = 8) (k16 : (q16.toBitVec % 64).toNat = 16) (k32 : (q32.toBitVec % 64).toNat = 32) : v.toInt = ((v_pS 8 x.toBitVec.toNat : Nat) : Int) := by
  have hx := x.toBitVec.isLt
  have u1 := v_uN h1 k1
  have u2 := v_aN (k := 6148914691236517205) h2 rfl
  rw [u1] at u2
  have m1 : v_mk 85 8 = 6148914691236517205 := by decide +kernel
  have l2 := (v_st1 8 x.toBitVec.toNat).1
  rw [m1] at l2
  have u3 := v_mN h3 (by rw [u2]; exact l2)
  have u4 := v_aN (k := 3689348814741910323) h4 rfl
  have u5 := v_uN h5 k2
  have u6 := v_aN (k := 3689348814741910323) h6 rfl
  have l4 : b1.toBitVec.toNat ≤ 3689348814741910323 := by rw [u4]; exact Nat.and_le_right
  have l6 : b3.toBitVec.toNat ≤ 3689348814741910323 := by rw [u6]; exact Nat.and_le_right
  have u7 := v_pN h7 (by omega)
  have u8 := v_uN h8 k4
  have u9 := v_pN h9 (by rw [u8]; omega)
  have u10 := v_aN (k := 1085102592571150095) h10 rfl
  have l10 : y3.toBitVec.toNat ≤ 1085102592571150095 := by rw [u10]; exact Nat.and_le_right
  have u11 := v_uN h11 k8
  have u12 := v_pN h12 (by rw [u11]; omega)
  have u13 := v_uN h13 k16
  have u14 := v_pN h14 (by rw [u13, u12, u11]; omega)
  have u15 := v_uN h15 k32
  have u16 := v_pN h16 (by rw [u15, u14, u13, u12, u11]; omega)
  have hf := v_bcN (x := x.toBitVec.toNat) (y1 := y1.toBitVec.toNat) (y2 := y2.toBitVec.toNat) (y3 := y3.toBitVec.toNat) (y4 := y4.toBitVec.toNat) (y5 := y5.toBitVec.toNat) (y6 := y6.toBitVec.toNat) hx (by rw [u3, u2]) (by rw [u7, u4, u6, u5]) (by rw [u10, u9, u8]) (by rw [u12, u11]) (by rw [u14, u13]) (by rw [u16, u15])
  have hi : i.toBitVec.toNat = y6.toBitVec.toNat % 2 ^ 32 := by
    rw [h17, Int64.toBitVec_toInt32, BitVec.signExtend_eq_setWidth_of_le _ (by decide), BitVec.toNat_setWidth]
  have hv : v.toBitVec.toNat = v_pS 8 x.toBitVec.toNat := by
    rw [h18, Int32.toBitVec_and, BitVec.toNat_and, hi]
    show y6.toBitVec.toNat % 2 ^ 32 &&& (2 ^ 7 - 1) = _
    rw [Nat.and_two_pow_sub_one_eq_mod, ← hf.1]
    omega
  have h64 := v_pS8 x.toBitVec.toNat
  show v.toBitVec.toInt = _
  rw [BitVec.toInt_eq_toNat_of_lt (by rw [hv]; omega), hv]
theorem v_pS_p {k : Int64} (hk : ¬ k = 0) : 1 ≤ v_pS 8 k.toUInt64.toNat := by
  have hk0 : k.toBitVec.toNat ≠ 0 := fun e => hk (Int64.toBitVec_inj.mp (BitVec.eq_of_toNat_eq e))
  have h3 := v_pS_s 8 k.toBitVec.toNat k.toBitVec.isLt hk0
  have h4 : k.toUInt64.toNat = k.toBitVec.toNat := rfl
  rw [h4]; omega
theorem v_bts_s {k w z : Int64} {v v' : Int32} {X : Nat} (h : v.toInt + ((v_pS 8 k.toUInt64.toNat : Nat) : Int) = (X : Int)) (hk : ¬ k = 0) (e1 : w = k - 1) (e2 : z = k &&& w) (hv : v'.toInt = v.toInt + 1) : v'.toInt + ((v_pS 8 z.toUInt64.toNat : Nat) : Int) = (X : Int) := by
  have hk0 : k.toBitVec.toNat ≠ 0 := fun e => hk (Int64.toBitVec_inj.mp (BitVec.eq_of_toNat_eq e))
  have h1 : w.toBitVec.toNat = k.toBitVec.toNat - 1 := by
    rw [e1, Int64.toBitVec_sub, BitVec.toNat_sub]
    have := k.toBitVec.isLt
    have h1 : (1 : Int64).toBitVec.toNat = 1 := rfl
    rw [h1]
    omega
  have h2 : z.toUInt64.toNat = k.toBitVec.toNat &&& (k.toBitVec.toNat - 1) := by
    show z.toBitVec.toNat = _
    rw [e2, Int64.toBitVec_and, BitVec.toNat_and, h1]
  have h3 := v_pS_s 8 k.toBitVec.toNat k.toBitVec.isLt hk0
  have h4 : k.toUInt64.toNat = k.toBitVec.toNat := rfl
  rw [h4] at h
  rw [h2]; omega
end BCT
/-! ===== printed by riv.py: far ===== -/
noncomputable def wl_j_bc : List (Nat × Nat) := []
noncomputable def Q_j_bc (gi : Nat → Nat → Int32) (gl : Nat → Nat → Int64) (gr : Nat → Nat → Value) (ar0 : Int64) : Int32 → (Nat → Nat → Int32) → (Nat → Nat → Int64) → (Nat → Nat → Value) → Prop := fun (v : Int32) (gi2 : Nat → Nat → Int32) (gl2 : Nat → Nat → Int64) (gr2 : Nat → Nat → Value) => v.toInt = ((v_pS 8 ar0.toBitVec.toNat : Nat) : Int)
theorem c_j_bc {X : x_Ext} {d : Nat} {sh : List (Nat ⊕ (Nat × Nat))} {gi : Nat → Nat → Int32} {gl : Nat → Nat → Int64} {gr : Nat → Nat → Value} (hI : t_I sh gi gr) (ar0 : Int64) : x_Me X (d + 1) n_J13_bitCount_95d88 [.long ar0] (sh, gi, gl, gr) (t_PI wl_j_bc sh gi gl gr (-2147483648) 2147483647 (Q_j_bc gi gl gr ar0)) := by
  have hX : t_X wl_j_bc sh gi gl gr gi gl gr := t_X.rf
  refine me_s f_J13_bitCount_95d88 rfl rfl ?_
  refine ev_loc f_J13_bitCount_95d88 (nx := 1) rfl rfl rfl rfl ?_
  refine ev_loc f_J13_bitCount_95d88 (nx := 2) rfl rfl rfl rfl ?_
  refine ev_ic f_J13_bitCount_95d88 (nx := 3) (v := 1) rfl (by decide) rfl ?_
  refine ev_anyLE f_J13_bitCount_95d88 (nx := 4) rfl rfl rfl rfl (fun z1 e1 => ?_)
  refine ev_ldL f_J13_bitCount_95d88 (nx := 7) (v := 6148914691236517205) rfl (by decide) rfl ?_
  refine ev_anyLE f_J13_bitCount_95d88 (nx := 8) rfl rfl rfl rfl (fun z2 e2 => ?_)
  refine ev_anyLE f_J13_bitCount_95d88 (nx := 9) rfl rfl rfl rfl (fun z3 e3 => ?_)
  refine ev_loc f_J13_bitCount_95d88 (nx := 10) (lo' := [(0, .long z3)]) rfl rfl rfl rfl ?_
  refine ev_loc f_J13_bitCount_95d88 (nx := 11) rfl rfl rfl rfl ?_
  refine ev_ldL f_J13_bitCount_95d88 (nx := 14) (v := 3689348814741910323) rfl (by decide) rfl ?_
  refine ev_anyLE f_J13_bitCount_95d88 (nx := 15) rfl rfl rfl rfl (fun z4 e4 => ?_)
  refine ev_loc f_J13_bitCount_95d88 (nx := 16) rfl rfl rfl rfl ?_
  refine ev_ic f_J13_bitCount_95d88 (nx := 17) (v := 2) rfl (by decide) rfl ?_
  refine ev_anyLE f_J13_bitCount_95d88 (nx := 18) rfl rfl rfl rfl (fun z5 e5 => ?_)
  refine ev_ldL f_J13_bitCount_95d88 (nx := 21) (v := 3689348814741910323) rfl (by decide) rfl ?_
  refine ev_anyLE f_J13_bitCount_95d88 (nx := 22) rfl rfl rfl rfl (fun z6 e6 => ?_)
  refine ev_anyLE f_J13_bitCount_95d88 (nx := 23) rfl rfl rfl rfl (fun z7 e7 => ?_)
  refine ev_loc f_J13_bitCount_95d88 (nx := 24) (lo' := [(0, .long z7)]) rfl rfl rfl rfl ?_
  refine ev_loc f_J13_bitCount_95d88 (nx := 25) rfl rfl rfl rfl ?_
  refine ev_loc f_J13_bitCount_95d88 (nx := 26) rfl rfl rfl rfl ?_
  refine ev_ic f_J13_bitCount_95d88 (nx := 27) (v := 4) rfl (by decide) rfl ?_
  refine ev_anyLE f_J13_bitCount_95d88 (nx := 28) rfl rfl rfl rfl (fun z8 e8 => ?_)
  refine ev_anyLE f_J13_bitCount_95d88 (nx := 29) rfl rfl rfl rfl (fun z9 e9 => ?_)
  refine ev_ldL f_J13_bitCount_95d88 (nx := 32) (v := 1085102592571150095) rfl (by decide) rfl ?_
  refine ev_anyLE f_J13_bitCount_95d88 (nx := 33) rfl rfl rfl rfl (fun z10 e10 => ?_)
  refine ev_loc f_J13_bitCount_95d88 (nx := 34) (lo' := [(0, .long z10)]) rfl rfl rfl rfl ?_
  refine ev_loc f_J13_bitCount_95d88 (nx := 35) rfl rfl rfl rfl ?_
  refine ev_loc f_J13_bitCount_95d88 (nx := 36) rfl rfl rfl rfl ?_
  refine ev_bp f_J13_bitCount_95d88 (nx := 38) (v := 8) rfl (by decide) rfl ?_
  refine ev_anyLE f_J13_bitCount_95d88 (nx := 39) rfl rfl rfl rfl (fun z11 e11 => ?_)
  refine ev_anyLE f_J13_bitCount_95d88 (nx := 40) rfl rfl rfl rfl (fun z12 e12 => ?_)
  refine ev_loc f_J13_bitCount_95d88 (nx := 41) (lo' := [(0, .long z12)]) rfl rfl rfl rfl ?_
  refine ev_loc f_J13_bitCount_95d88 (nx := 42) rfl rfl rfl rfl ?_
  refine ev_loc f_J13_bitCount_95d88 (nx := 43) rfl rfl rfl rfl ?_
  refine ev_bp f_J13_bitCount_95d88 (nx := 45) (v := 16) rfl (by decide) rfl ?_
  refine ev_anyLE f_J13_bitCount_95d88 (nx := 46) rfl rfl rfl rfl (fun z13 e13 => ?_)
  refine ev_anyLE f_J13_bitCount_95d88 (nx := 47) rfl rfl rfl rfl (fun z14 e14 => ?_)
  refine ev_loc f_J13_bitCount_95d88 (nx := 48) (lo' := [(0, .long z14)]) rfl rfl rfl rfl ?_
  refine ev_loc f_J13_bitCount_95d88 (nx := 49) rfl rfl rfl rfl ?_
  refine ev_loc f_J13_bitCount_95d88 (nx := 50) rfl rfl rfl rfl ?_
  refine ev_bp f_J13_bitCount_95d88 (nx := 52) (v := 32) rfl (by decide) rfl ?_
  refine ev_anyLE f_J13_bitCount_95d88 (nx := 53) rfl rfl rfl rfl (fun z15 e15 => ?_)
  refine ev_anyLE f_J13_bitCount_95d88 (nx := 54) rfl rfl rfl rfl (fun z16 e16 => ?_)
  refine ev_loc f_J13_bitCount_95d88 (nx := 55) (lo' := [(0, .long z16)]) rfl rfl rfl rfl ?_
  refine ev_loc f_J13_bitCount_95d88 (nx := 56) rfl rfl rfl rfl ?_
  refine ev_anyIE f_J13_bitCount_95d88 (nx := 57) rfl rfl rfl rfl (fun z17 e17 => ?_)
  refine ev_bp f_J13_bitCount_95d88 (nx := 59) (v := 127) rfl (by decide) rfl ?_
  refine ev_anyIE f_J13_bitCount_95d88 (nx := 60) rfl rfl rfl rfl (fun z18 e18 => ?_)
  exact ev_ret f_J13_bitCount_95d88 rfl rfl rfl ⟨_, _, _, rfl, hI, hX, ⟨_, rfl, (t_lo z18), (t_hi z18), (show z18.toInt = ((v_pS 8 ar0.toBitVec.toNat : Nat) : Int) from v_bcI e1 e2 e3 e4 e5 e6 e7 e8 e9 e10 e11 e12 e13 e14 e15 e16 e17 e18 (by decide) (by decide) (by decide) (by decide) (by decide) (by decide))⟩⟩
noncomputable def wl_n_bits2 : List (Nat × Nat) := []
noncomputable def Q_n_bits2 (gi : Nat → Nat → Int32) (gl : Nat → Nat → Int64) (gr : Nat → Nat → Value) (ar0 : Int64) : Int32 → (Nat → Nat → Int32) → (Nat → Nat → Int64) → (Nat → Nat → Value) → Prop := fun (v : Int32) (gi2 : Nat → Nat → Int32) (gl2 : Nat → Nat → Int64) (gr2 : Nat → Nat → Value) => v.toInt = ((v_pS 8 ar0.toUInt64.toNat : Nat) : Int)
theorem c_n_bits2 {X : x_Ext} {d : Nat} {sh : List (Nat ⊕ (Nat × Nat))} {gi : Nat → Nat → Int32} {gl : Nat → Nat → Int64} {gr : Nat → Nat → Value} (hI : t_I sh gi gr) (ar0 : Int64) : x_Me X (d + 1) n_X12_bits [.long ar0] (sh, gi, gl, gr) (t_PI wl_n_bits2 sh gi gl gr 0 64 (Q_n_bits2 gi gl gr ar0)) := by
  have hX : t_X wl_n_bits2 sh gi gl gr gi gl gr := t_X.rf
  refine me_s f_X12_bits rfl rfl ?_
  refine ev_ic f_X12_bits (nx := 1) (v := 0) rfl (by decide) rfl ?_
  refine ev_loc f_X12_bits (nx := 2) (lo' := [(2, .int 0), (0, .long ar0)]) rfl rfl rfl rfl ?_
  refine ev_loc f_X12_bits (nx := 3) rfl rfl rfl rfl ?_
  refine ev_loc f_X12_bits (nx := 4) (lo' := [(3, .long ar0), (2, .int 0), (0, .long ar0)]) rfl rfl rfl rfl ?_
  have L1 : ∀ (m1 : Nat) (y1_3 : Int64) (y1_2 : Int32), 0 ≤ y1_2.toInt → y1_2.toInt ≤ 64 → y1_2.toInt + ((v_pS 8 y1_3.toUInt64.toNat : Nat) : Int) = ((v_pS 8 ar0.toUInt64.toNat : Nat) : Int) → y1_3.toUInt64.toNat = m1 → x_Ev X (d + 1) n_X12_bits 4 [(3, .long y1_3), (2, .int y1_2), (0, .long ar0)] [] (sh, gi, gl, gr) (t_PI wl_n_bits2 sh gi gl gr 0 64 (Q_n_bits2 gi gl gr ar0)) := by
    intro m1
    induction m1 using Nat.strongRecOn with
    | _ m1 ih1 =>
    intro y1_3 y1_2 l1_2 u1_2 j1_0 hm1
    refine ev_loc f_X12_bits (nx := 5) rfl rfl rfl rfl ?_
    refine ev_lc f_X12_bits (nx := 6) (v := 0) rfl (by decide) rfl ?_
    refine ev_anyIE f_X12_bits (nx := 7) rfl rfl rfl rfl (fun z2 e2 => ?_)
    refine ev_if f_X12_bits (t1 := 22) (t2 := 10) rfl rfl rfl (fun h3 => ?_) (fun h3 => ?_)
    · have u4 : z2.toInt ≤ 0 := t_equ h3 (by decide : (0:Int32).toInt ≤ (0:Int))
      have l5 : 0 ≤ z2.toInt := t_eql h3 (by decide : (0:Int) ≤ (0:Int32).toInt)
      refine ev_loc f_X12_bits (nx := 23) rfl rfl rfl rfl ?_
      exact ev_ret f_X12_bits rfl rfl rfl ⟨_, _, _, rfl, hI, hX, ⟨_, rfl, l1_2, u1_2, (show y1_2.toInt = ((v_pS 8 ar0.toUInt64.toNat : Nat) : Int) from (by
                                                            have hj := j1_0
                                                            rw [(lg_cmp_eq _ _).mp (e2.symm.trans h3)] at hj
                                                            have h0 : v_pS 8 (0 : Int64).toUInt64.toNat = 0 := v_pS_0
                                                            omega))⟩⟩
    · have r6 : z2.toInt ≠ 0 := fun e => h3 (Int32.toInt_inj.mp (e.trans (by decide : (0:Int) = (0 : Int32).toInt)))
      refine ev_incR f_X12_bits (nx := 13) (c := 1) (l := 1) (u := 65) rfl rfl (by decide) (by decide) l1_2 u1_2 rfl rfl (by decide) (by decide) rfl (fun z7 e7 l7 u7 => ?_)
      refine ev_loc f_X12_bits (nx := 14) rfl rfl rfl rfl ?_
      refine ev_loc f_X12_bits (nx := 15) rfl rfl rfl rfl ?_
      refine ev_lc f_X12_bits (nx := 16) (v := 1) rfl (by decide) rfl ?_
      refine ev_anyLE f_X12_bits (nx := 17) rfl rfl rfl rfl (fun z8 e8 => ?_)
      refine ev_anyLE f_X12_bits (nx := 18) rfl rfl rfl rfl (fun z9 e9 => ?_)
      refine ev_loc f_X12_bits (nx := 19) (lo' := [(3, .long z9), (2, .int z7), (0, .long ar0)]) rfl rfl rfl rfl ?_
      refine ev_jmp f_X12_bits (nx := 4) rfl rfl rfl ?_
      have hX64 := v_pS8 ar0.toUInt64.toNat
      have hP1 := v_pS_p (fun hh => h3 (e2.trans ((lg_cmp_eq _ _).mpr hh)))
      refine ev_sub (lo := [(3, .long z9), (2, .int z7), (0, .long ar0)]) rfl (t_sc rfl (t_sc rfl (t_sc rfl t_sn))) ?_
      exact ih1 _ (by have := t_bits e2 h3 e8 e9; omega) (z9) (z7) (Int.le_trans (by decide : (0:Int) ≤ 1) l7) (by omega : z7.toInt ≤ (64:Int)) (v_bts_s j1_0 (fun hh => h3 (e2.trans ((lg_cmp_eq _ _).mpr hh))) e8 e9 (by omega)) rfl
  have hX64 := v_pS8 ar0.toUInt64.toNat
  refine ev_sub (lo := [(3, .long ar0), (2, .int 0), (0, .long ar0)]) rfl (t_sc rfl (t_sc rfl (t_sc rfl t_sn))) ?_
  exact L1 _ (ar0) (0) (by decide : (0:Int) ≤ (0:Int32).toInt) (Int.le_trans (by decide : (0:Int32).toInt ≤ (0:Int)) (by decide : (0:Int) ≤ 64)) (by have z0 : (0 : Int32).toInt = 0 := rfl; omega) rfl
noncomputable def wl_d_far : List (Nat × Nat) := [(0, 0)]
noncomputable def Q_d_far (gi : Nat → Nat → Int32) (gl : Nat → Nat → Int64) (gr : Nat → Nat → Value) (ar1 : Int32) (ar2 : Int32) : Int32 → (Nat → Nat → Int32) → (Nat → Nat → Int64) → (Nat → Nat → Value) → Prop := fun (v : Int32) (gi2 : Nat → Nat → Int32) (gl2 : Nat → Nat → Int64) (gr2 : Nat → Nat → Value) => ∀ (u : Nat) (D : s_D), gr 0 6 = .ref u → t_VL gr u → t_CV gi gl u D → t_Cb D → ((0 ≤ ar1.toInt ∧ ar1.toInt < D 0 ∧ 0 ≤ ar2.toInt ∧ ar2.toInt < D 0) → v.toInt = ((v_pS 8 (s_hd D ar1.toInt ^^^ s_hd D ar2.toInt).toBitVec.toNat : Nat) : Int)) ∧ (¬ (0 ≤ ar1.toInt ∧ ar1.toInt < D 0 ∧ 0 ≤ ar2.toInt ∧ ar2.toInt < D 0) → v.toInt = -1)
theorem c_d_far {X : x_Ext} {d : Nat} {sh : List (Nat ⊕ (Nat × Nat))} {gi : Nat → Nat → Int32} {gl : Nat → Nat → Int64} {gr : Nat → Nat → Value} (hI : t_I sh gi gr) (ar1 : Int32) (ar2 : Int32) : x_Me X (d + 3) n_X11_far [.ref 0, .int ar1, .int ar2] (sh, gi, gl, gr) (t_PI wl_d_far sh gi gl gr (-2147483648) 2147483647 (Q_d_far gi gl gr ar1 ar2)) := by
  have hX : t_X wl_d_far sh gi gl gr gi gl gr := t_X.rf
  refine me_i f_X11_far (hI.wf.s rfl) rfl rfl rfl ?_
  refine ev_loc f_X11_far (nx := 1) rfl rfl rfl rfl ?_
  refine ev_loc f_X11_far (nx := 2) rfl rfl rfl rfl ?_
  refine ev_inV2 f_X11_far (nx := 5) (lo2 := [(0, .ref 0), (1, .int ar1)]) rfl rfl rfl rfl f_X11_isPort (hI.wf.s rfl) rfl rfl rfl rfl rfl ?_
  refine ev_loc f_X11_isPort (nx := 1) rfl rfl rfl rfl ?_
  refine ev_if f_X11_isPort (t1 := 19) (t2 := 4) rfl rfl rfl (fun h1 => ?_) (fun h1 => ?_)
  · have u2 : ar1.toInt ≤ (-1) := t_ltu h1 (by decide : (0:Int32).toInt ≤ (0:Int)) rfl
    refine ev_ic f_X11_isPort (nx := 20) (v := 0) rfl (by decide) rfl ?_
    refine ev_retK1 f_X11_isPort rfl rfl rfl ?_
    refine ev_t f_X11_far (t1 := 16) (t2 := 8) rfl rfl rfl (by decide) ?_
    refine ev_loc f_X11_far (nx := 17) rfl rfl rfl rfl ?_
    refine ev_ic f_X11_far (nx := 18) (v := 1) rfl (by decide) rfl ?_
    refine ev_inV2 f_X11_far (nx := 21) (lo2 := [(0, .ref 0), (1, .int 1)]) rfl rfl rfl rfl f_X11_refuse (hI.wf.s rfl) rfl rfl rfl rfl rfl ?_
    refine ev_loc f_X11_refuse (nx := 1) rfl rfl rfl rfl ?_
    refine ev_loc f_X11_refuse (nx := 2) rfl rfl rfl rfl ?_
    refine ev_putIT f_X11_refuse (nx := 5) rfl (hI.wf.s rfl) rfl rfl rfl (hI.put0 (hI.wf.s rfl) rfl rfl) (hX.upI rfl) (fun g3 e3 hI hX => ?_)
    refine ev_ic f_X11_refuse (nx := 6) (v := -1) rfl (by decide) rfl ?_
    refine ev_retK1 f_X11_refuse rfl rfl rfl ?_
    exact ev_ret f_X11_far rfl rfl rfl ⟨_, _, _, rfl, hI, hX, ⟨_, rfl, (Int.le_trans (by decide : ((-2147483648):Int) ≤ (-1)) (by decide : ((-1):Int) ≤ ((-1):Int32).toInt)), (Int.le_trans (by decide : ((-1):Int32).toInt ≤ ((-1):Int)) (by decide : ((-1):Int) ≤ 2147483647)), (show ∀ (u : Nat) (D : s_D), gr 0 6 = .ref u → t_VL gr u → t_CV gi gl u D → t_Cb D → ((0 ≤ ar1.toInt ∧ ar1.toInt < D 0 ∧ 0 ≤ ar2.toInt ∧ ar2.toInt < D 0) → ((-1) : Int) = ((v_pS 8 (s_hd D ar1.toInt ^^^ s_hd D ar2.toInt).toBitVec.toNat : Nat) : Int)) ∧ (¬ (0 ≤ ar1.toInt ∧ ar1.toInt < D 0 ∧ 0 ≤ ar2.toInt ∧ ar2.toInt < D 0) → ((-1) : Int) = -1) from (by
                                                            intro u D hu hl hc hb
                                                            have hm := hc.1.1
                                                            exact ⟨fun h => absurd h (by omega), fun _ => rfl⟩))⟩⟩
  · have l4 : 0 ≤ ar1.toInt := t_lel (t_nlt h1) (by decide : (0:Int) ≤ (0:Int32).toInt)
    refine ev_loc f_X11_isPort (nx := 5) rfl rfl rfl rfl ?_
    refine ev_loc f_X11_isPort (nx := 6) rfl rfl rfl rfl ?_
    obtain ⟨a5, e5, p5⟩ := hI.2.2.2.1.1
    refine ev_getR f_X11_isPort (nx := 9) rfl (hI.wf.s rfl) rfl rfl e5 rfl rfl ?_
    refine ev_getI f_X11_isPort (nx := 12) rfl p5.1 rfl rfl rfl ?_
    obtain ⟨l6, u6⟩ := hI.b p5.1 (t_bdK rfl : t_bd 4 0 = some (0, 6))
    refine ev_if f_X11_isPort (t1 := 19) (t2 := 15) rfl rfl rfl (fun h7 => ?_) (fun h7 => ?_)
    · have r8 : (gi a5 0).toInt ≤ ar1.toInt := Int32.le_iff_toInt_le.mp h7
      refine ev_ic f_X11_isPort (nx := 20) (v := 0) rfl (by decide) rfl ?_
      refine ev_retK1 f_X11_isPort rfl rfl rfl ?_
      refine ev_t f_X11_far (t1 := 16) (t2 := 8) rfl rfl rfl (by decide) ?_
      refine ev_loc f_X11_far (nx := 17) rfl rfl rfl rfl ?_
      refine ev_ic f_X11_far (nx := 18) (v := 1) rfl (by decide) rfl ?_
      refine ev_inV2 f_X11_far (nx := 21) (lo2 := [(0, .ref 0), (1, .int 1)]) rfl rfl rfl rfl f_X11_refuse (hI.wf.s rfl) rfl rfl rfl rfl rfl ?_
      refine ev_loc f_X11_refuse (nx := 1) rfl rfl rfl rfl ?_
      refine ev_loc f_X11_refuse (nx := 2) rfl rfl rfl rfl ?_
      refine ev_putIT f_X11_refuse (nx := 5) rfl (hI.wf.s rfl) rfl rfl rfl (hI.put0 (hI.wf.s rfl) rfl rfl) (hX.upI rfl) (fun g9 e9 hI hX => ?_)
      refine ev_ic f_X11_refuse (nx := 6) (v := -1) rfl (by decide) rfl ?_
      refine ev_retK1 f_X11_refuse rfl rfl rfl ?_
      exact ev_ret f_X11_far rfl rfl rfl ⟨_, _, _, rfl, hI, hX, ⟨_, rfl, (Int.le_trans (by decide : ((-2147483648):Int) ≤ (-1)) (by decide : ((-1):Int) ≤ ((-1):Int32).toInt)), (Int.le_trans (by decide : ((-1):Int32).toInt ≤ ((-1):Int)) (by decide : ((-1):Int) ≤ 2147483647)), (show ∀ (u : Nat) (D : s_D), gr 0 6 = .ref u → t_VL gr u → t_CV gi gl u D → t_Cb D → ((0 ≤ ar1.toInt ∧ ar1.toInt < D 0 ∧ 0 ≤ ar2.toInt ∧ ar2.toInt < D 0) → ((-1) : Int) = ((v_pS 8 (s_hd D ar1.toInt ^^^ s_hd D ar2.toInt).toBitVec.toNat : Nat) : Int)) ∧ (¬ (0 ≤ ar1.toInt ∧ ar1.toInt < D 0 ∧ 0 ≤ ar2.toInt ∧ ar2.toInt < D 0) → ((-1) : Int) = -1) from (by
                                                            intro u D hu hl hc hb
                                                            have ha : a5 = u := Value.ref.inj (e5.symm.trans hu)
                                                            subst ha
                                                            have hm := hc.1.1
                                                            exact ⟨fun h => absurd h (by omega), fun _ => rfl⟩))⟩⟩
    · have r10 : ar1.toInt < (gi a5 0).toInt := Int32.lt_iff_toInt_lt.mp (t_nle h7)
      have u11 : ar1.toInt ≤ 5 := t_ltu (t_nle h7) u6 rfl
      have l12 : 1 ≤ (gi a5 0).toInt := t_ltl (t_nle h7) l4 rfl
      refine ev_ic f_X11_isPort (nx := 16) (v := 1) rfl (by decide) rfl ?_
      refine ev_jmp f_X11_isPort (nx := 20) rfl rfl rfl ?_
      refine ev_retK1 f_X11_isPort rfl rfl rfl ?_
      refine ev_f f_X11_far (t1 := 16) (t2 := 8) rfl rfl rfl (by decide) ?_
      refine ev_loc f_X11_far (nx := 9) rfl rfl rfl rfl ?_
      refine ev_loc f_X11_far (nx := 10) rfl rfl rfl rfl ?_
      refine ev_inV2 f_X11_far (nx := 13) (lo2 := [(0, .ref 0), (1, .int ar2)]) rfl rfl rfl rfl f_X11_isPort (hI.wf.s rfl) rfl rfl rfl rfl rfl ?_
      refine ev_loc f_X11_isPort (nx := 1) rfl rfl rfl rfl ?_
      refine ev_if f_X11_isPort (t1 := 19) (t2 := 4) rfl rfl rfl (fun h13 => ?_) (fun h13 => ?_)
      · have u14 : ar2.toInt ≤ (-1) := t_ltu h13 (by decide : (0:Int32).toInt ≤ (0:Int)) rfl
        refine ev_ic f_X11_isPort (nx := 20) (v := 0) rfl (by decide) rfl ?_
        refine ev_retK1 f_X11_isPort rfl rfl rfl ?_
        refine ev_t f_X11_far (t1 := 16) (t2 := 22) rfl rfl rfl (by decide) ?_
        refine ev_loc f_X11_far (nx := 17) rfl rfl rfl rfl ?_
        refine ev_ic f_X11_far (nx := 18) (v := 1) rfl (by decide) rfl ?_
        refine ev_inV2 f_X11_far (nx := 21) (lo2 := [(0, .ref 0), (1, .int 1)]) rfl rfl rfl rfl f_X11_refuse (hI.wf.s rfl) rfl rfl rfl rfl rfl ?_
        refine ev_loc f_X11_refuse (nx := 1) rfl rfl rfl rfl ?_
        refine ev_loc f_X11_refuse (nx := 2) rfl rfl rfl rfl ?_
        refine ev_putIT f_X11_refuse (nx := 5) rfl (hI.wf.s rfl) rfl rfl rfl (hI.put0 (hI.wf.s rfl) rfl rfl) (hX.upI rfl) (fun g15 e15 hI hX => ?_)
        refine ev_ic f_X11_refuse (nx := 6) (v := -1) rfl (by decide) rfl ?_
        refine ev_retK1 f_X11_refuse rfl rfl rfl ?_
        exact ev_ret f_X11_far rfl rfl rfl ⟨_, _, _, rfl, hI, hX, ⟨_, rfl, (Int.le_trans (by decide : ((-2147483648):Int) ≤ (-1)) (by decide : ((-1):Int) ≤ ((-1):Int32).toInt)), (Int.le_trans (by decide : ((-1):Int32).toInt ≤ ((-1):Int)) (by decide : ((-1):Int) ≤ 2147483647)), (show ∀ (u : Nat) (D : s_D), gr 0 6 = .ref u → t_VL gr u → t_CV gi gl u D → t_Cb D → ((0 ≤ ar1.toInt ∧ ar1.toInt < D 0 ∧ 0 ≤ ar2.toInt ∧ ar2.toInt < D 0) → ((-1) : Int) = ((v_pS 8 (s_hd D ar1.toInt ^^^ s_hd D ar2.toInt).toBitVec.toNat : Nat) : Int)) ∧ (¬ (0 ≤ ar1.toInt ∧ ar1.toInt < D 0 ∧ 0 ≤ ar2.toInt ∧ ar2.toInt < D 0) → ((-1) : Int) = -1) from (by
                                                            intro u D hu hl hc hb
                                                            have ha : a5 = u := Value.ref.inj (e5.symm.trans hu)
                                                            subst ha
                                                            have hm := hc.1.1
                                                            exact ⟨fun h => absurd h (by omega), fun _ => rfl⟩))⟩⟩
      · have l16 : 0 ≤ ar2.toInt := t_lel (t_nlt h13) (by decide : (0:Int) ≤ (0:Int32).toInt)
        refine ev_loc f_X11_isPort (nx := 5) rfl rfl rfl rfl ?_
        refine ev_loc f_X11_isPort (nx := 6) rfl rfl rfl rfl ?_
        refine ev_getR f_X11_isPort (nx := 9) (v := .ref a5) rfl (hI.wf.s rfl) rfl rfl e5 rfl rfl ?_
        refine ev_gvI f_X11_isPort (nx := 12) (w := (gi a5 0)) rfl p5.1 rfl rfl rfl rfl ?_
        refine ev_if f_X11_isPort (t1 := 19) (t2 := 15) rfl rfl rfl (fun h17 => ?_) (fun h17 => ?_)
        · have r18 : (gi a5 0).toInt ≤ ar2.toInt := Int32.le_iff_toInt_le.mp h17
          have l19 : 1 ≤ ar2.toInt := t_lel h17 l12
          refine ev_ic f_X11_isPort (nx := 20) (v := 0) rfl (by decide) rfl ?_
          refine ev_retK1 f_X11_isPort rfl rfl rfl ?_
          refine ev_t f_X11_far (t1 := 16) (t2 := 22) rfl rfl rfl (by decide) ?_
          refine ev_loc f_X11_far (nx := 17) rfl rfl rfl rfl ?_
          refine ev_ic f_X11_far (nx := 18) (v := 1) rfl (by decide) rfl ?_
          refine ev_inV2 f_X11_far (nx := 21) (lo2 := [(0, .ref 0), (1, .int 1)]) rfl rfl rfl rfl f_X11_refuse (hI.wf.s rfl) rfl rfl rfl rfl rfl ?_
          refine ev_loc f_X11_refuse (nx := 1) rfl rfl rfl rfl ?_
          refine ev_loc f_X11_refuse (nx := 2) rfl rfl rfl rfl ?_
          refine ev_putIT f_X11_refuse (nx := 5) rfl (hI.wf.s rfl) rfl rfl rfl (hI.put0 (hI.wf.s rfl) rfl rfl) (hX.upI rfl) (fun g20 e20 hI hX => ?_)
          refine ev_ic f_X11_refuse (nx := 6) (v := -1) rfl (by decide) rfl ?_
          refine ev_retK1 f_X11_refuse rfl rfl rfl ?_
          exact ev_ret f_X11_far rfl rfl rfl ⟨_, _, _, rfl, hI, hX, ⟨_, rfl, (Int.le_trans (by decide : ((-2147483648):Int) ≤ (-1)) (by decide : ((-1):Int) ≤ ((-1):Int32).toInt)), (Int.le_trans (by decide : ((-1):Int32).toInt ≤ ((-1):Int)) (by decide : ((-1):Int) ≤ 2147483647)), (show ∀ (u : Nat) (D : s_D), gr 0 6 = .ref u → t_VL gr u → t_CV gi gl u D → t_Cb D → ((0 ≤ ar1.toInt ∧ ar1.toInt < D 0 ∧ 0 ≤ ar2.toInt ∧ ar2.toInt < D 0) → ((-1) : Int) = ((v_pS 8 (s_hd D ar1.toInt ^^^ s_hd D ar2.toInt).toBitVec.toNat : Nat) : Int)) ∧ (¬ (0 ≤ ar1.toInt ∧ ar1.toInt < D 0 ∧ 0 ≤ ar2.toInt ∧ ar2.toInt < D 0) → ((-1) : Int) = -1) from (by
                                                            intro u D hu hl hc hb
                                                            have ha : a5 = u := Value.ref.inj (e5.symm.trans hu)
                                                            subst ha
                                                            have hm := hc.1.1
                                                            exact ⟨fun h => absurd h (by omega), fun _ => rfl⟩))⟩⟩
        · have r21 : ar2.toInt < (gi a5 0).toInt := Int32.lt_iff_toInt_lt.mp (t_nle h17)
          have u22 : ar2.toInt ≤ 5 := t_ltu (t_nle h17) u6 rfl
          refine ev_ic f_X11_isPort (nx := 16) (v := 1) rfl (by decide) rfl ?_
          refine ev_jmp f_X11_isPort (nx := 20) rfl rfl rfl ?_
          refine ev_retK1 f_X11_isPort rfl rfl rfl ?_
          refine ev_f f_X11_far (t1 := 16) (t2 := 22) rfl rfl rfl (by decide) ?_
          refine ev_loc f_X11_far (nx := 23) rfl rfl rfl rfl ?_
          refine ev_loc f_X11_far (nx := 24) rfl rfl rfl rfl ?_
          refine ev_getR f_X11_far (nx := 27) (v := .ref a5) rfl (hI.wf.s rfl) rfl rfl e5 rfl rfl ?_
          refine ev_loc f_X11_far (nx := 28) rfl rfl rfl rfl ?_
          refine ev_qL0 f_X11_far (nx := 31) (r := [.ref 0]) rfl rfl rfl rfl rfl rfl rfl (c_d_heardOf hI (a5) p5 (ar1)) rfl (fun w23 q23 => ?_)
          have q23 : ∀ D : s_D, t_VL gr a5 → t_CV gi gl a5 D → w23 = s_hd D ar1.toInt := q23
          refine ev_loc f_X11_far (nx := 32) rfl rfl rfl rfl ?_
          refine ev_getR f_X11_far (nx := 35) (v := .ref a5) rfl (hI.wf.s rfl) rfl rfl e5 rfl rfl ?_
          refine ev_loc f_X11_far (nx := 36) rfl rfl rfl rfl ?_
          refine ev_qL0 f_X11_far (nx := 39) (r := [.long w23, .ref 0]) rfl rfl rfl rfl rfl rfl rfl (c_d_heardOf hI (a5) p5 (ar2)) rfl (fun w24 q24 => ?_)
          have q24 : ∀ D : s_D, t_VL gr a5 → t_CV gi gl a5 D → w24 = s_hd D ar2.toInt := q24
          refine ev_anyLE f_X11_far (nx := 40) rfl rfl rfl rfl (fun z25 e25 => ?_)
          refine ev_qI0 f_X11_far (nx := 43) (r := [.ref 0]) rfl rfl rfl rfl rfl rfl rfl (c_j_bc hI (z25)) rfl (fun w26 l26 u26 q26 => ?_)
          have q26 : w26.toInt = ((v_pS 8 z25.toBitVec.toNat : Nat) : Int) := q26
          refine ev_inV2 f_X11_far (nx := 46) (lo2 := [(0, .ref 0), (1, .int w26)]) rfl rfl rfl rfl f_X11_answer (hI.wf.s rfl) rfl rfl rfl rfl rfl ?_
          refine ev_loc f_X11_answer (nx := 1) rfl rfl rfl rfl ?_
          refine ev_ic f_X11_answer (nx := 2) (v := 0) rfl (by decide) rfl ?_
          refine ev_putIT f_X11_answer (nx := 5) rfl (hI.wf.s rfl) rfl rfl rfl (hI.put0 (hI.wf.s rfl) rfl rfl) (hX.upI rfl) (fun g27 e27 hI hX => ?_)
          refine ev_loc f_X11_answer (nx := 6) rfl rfl rfl rfl ?_
          refine ev_retK1 f_X11_answer rfl rfl rfl ?_
          exact ev_ret f_X11_far rfl rfl rfl ⟨_, _, _, rfl, hI, hX, ⟨_, rfl, l26, u26, (show ∀ (u : Nat) (D : s_D), gr 0 6 = .ref u → t_VL gr u → t_CV gi gl u D → t_Cb D → ((0 ≤ ar1.toInt ∧ ar1.toInt < D 0 ∧ 0 ≤ ar2.toInt ∧ ar2.toInt < D 0) → w26.toInt = ((v_pS 8 (s_hd D ar1.toInt ^^^ s_hd D ar2.toInt).toBitVec.toNat : Nat) : Int)) ∧ (¬ (0 ≤ ar1.toInt ∧ ar1.toInt < D 0 ∧ 0 ≤ ar2.toInt ∧ ar2.toInt < D 0) → w26.toInt = -1) from (by
                                                            intro u D hu hl hc hb
                                                            have ha : a5 = u := Value.ref.inj (e5.symm.trans hu)
                                                            subst ha
                                                            have hm := hc.1.1
                                                            refine ⟨fun _ => ?_, fun h => absurd (show _ from ⟨by omega, by omega, by omega, by omega⟩) h⟩
                                                            have hq := q26
                                                            rw [e25, q23 D hl hc, q24 D hl hc] at hq
                                                            exact hq))⟩⟩
noncomputable def wl_e_far : List (Nat × Nat) := [(69, 2)]
noncomputable def Q_e_far (gi : Nat → Nat → Int32) (gl : Nat → Nat → Int64) (gr : Nat → Nat → Value) (ar1 : Int32) (ar2 : Int32) : Int32 → (Nat → Nat → Int32) → (Nat → Nat → Int64) → (Nat → Nat → Value) → Prop := fun (v : Int32) (gi2 : Nat → Nat → Int32) (gl2 : Nat → Nat → Int64) (gr2 : Nat → Nat → Value) => ∀ D : s_D, t_ME 0 gi D → t_Cb D → ((0 ≤ ar1.toInt ∧ ar1.toInt < D 0 ∧ 0 ≤ ar2.toInt ∧ ar2.toInt < D 0) → v.toInt = ((v_pS 8 (s_hd D ar1.toInt ^^^ s_hd D ar2.toInt).toBitVec.toNat : Nat) : Int)) ∧ (¬ (0 ≤ ar1.toInt ∧ ar1.toInt < D 0 ∧ 0 ≤ ar2.toInt ∧ ar2.toInt < D 0) → v.toInt = -1)
theorem c_e_far {X : x_Ext} {d : Nat} {sh : List (Nat ⊕ (Nat × Nat))} {gi : Nat → Nat → Int32} {gl : Nat → Nat → Int64} {gr : Nat → Nat → Value} (hI : t_I sh gi gr) (ar1 : Int32) (ar2 : Int32) : x_Me X (d + 4) n_X12_far [.ref 69, .int ar1, .int ar2] (sh, gi, gl, gr) (t_PI wl_e_far sh gi gl gr (-1) 64 (Q_e_far gi gl gr ar1 ar2)) := by
  have hX : t_X wl_e_far sh gi gl gr gi gl gr := t_X.rf
  refine me_i f_X12_far (hI.wf.s rfl) rfl rfl rfl ?_
  refine ev_loc f_X12_far (nx := 1) rfl rfl rfl rfl ?_
  refine ev_loc f_X12_far (nx := 2) rfl rfl rfl rfl ?_
  refine ev_inV2 f_X12_far (nx := 5) (lo2 := [(0, .ref 69), (1, .int ar1)]) rfl rfl rfl rfl f_X12_isPort (hI.wf.s rfl) rfl rfl rfl rfl rfl ?_
  refine ev_loc f_X12_isPort (nx := 1) rfl rfl rfl rfl ?_
  refine ev_if f_X12_isPort (t1 := 18) (t2 := 4) rfl rfl rfl (fun h1 => ?_) (fun h1 => ?_)
  · have u2 : ar1.toInt ≤ (-1) := t_ltu h1 (by decide : (0:Int32).toInt ≤ (0:Int)) rfl
    refine ev_ic f_X12_isPort (nx := 19) (v := 0) rfl (by decide) rfl ?_
    refine ev_retK1 f_X12_isPort rfl rfl rfl ?_
    refine ev_t f_X12_far (t1 := 37) (t2 := 8) rfl rfl rfl (by decide) ?_
    refine ev_loc f_X12_far (nx := 38) rfl rfl rfl rfl ?_
    refine ev_ic f_X12_far (nx := 39) (v := 1) rfl (by decide) rfl ?_
    refine ev_inV2 f_X12_far (nx := 42) (lo2 := [(0, .ref 69), (1, .int 1)]) rfl rfl rfl rfl f_X12_refuse (hI.wf.s rfl) rfl rfl rfl rfl rfl ?_
    refine ev_loc f_X12_refuse (nx := 1) rfl rfl rfl rfl ?_
    refine ev_loc f_X12_refuse (nx := 2) rfl rfl rfl rfl ?_
    refine ev_putIT f_X12_refuse (nx := 5) rfl (hI.wf.s rfl) rfl rfl rfl (hI.put0 (hI.wf.s rfl) rfl rfl) (hX.upI rfl) (fun g3 e3 hI hX => ?_)
    refine ev_ic f_X12_refuse (nx := 6) (v := -1) rfl (by decide) rfl ?_
    refine ev_retK1 f_X12_refuse rfl rfl rfl ?_
    exact ev_ret f_X12_far rfl rfl rfl ⟨_, _, _, rfl, hI, hX, ⟨_, rfl, (by decide : ((-1):Int) ≤ ((-1):Int32).toInt), (Int.le_trans (by decide : ((-1):Int32).toInt ≤ ((-1):Int)) (by decide : ((-1):Int) ≤ 64)), (show ∀ D : s_D, t_ME 0 gi D → t_Cb D → ((0 ≤ ar1.toInt ∧ ar1.toInt < D 0 ∧ 0 ≤ ar2.toInt ∧ ar2.toInt < D 0) → ((-1) : Int) = ((v_pS 8 (s_hd D ar1.toInt ^^^ s_hd D ar2.toInt).toBitVec.toNat : Nat) : Int)) ∧ (¬ (0 ≤ ar1.toInt ∧ ar1.toInt < D 0 ∧ 0 ≤ ar2.toInt ∧ ar2.toInt < D 0) → ((-1) : Int) = -1) from (by
                                                            intro D hm hb
                                                            have h0 : (gi 70 0).toInt = D 0 := hm.1.1.1
                                                            exact ⟨fun h => absurd h (by omega), fun _ => rfl⟩))⟩⟩
  · have l4 : 0 ≤ ar1.toInt := t_lel (t_nlt h1) (by decide : (0:Int) ≤ (0:Int32).toInt)
    refine ev_loc f_X12_isPort (nx := 5) rfl rfl rfl rfl ?_
    refine ev_loc f_X12_isPort (nx := 6) rfl rfl rfl rfl ?_
    refine ev_getR f_X12_isPort (nx := 9) rfl (hI.wf.s rfl) rfl rfl (hI.wf.r rfl) rfl rfl ?_
    refine ev_ic f_X12_isPort (nx := 10) (v := 0) rfl (by decide) rfl ?_
    obtain ⟨l5, u5⟩ := hI.ab (by decide +kernel : t_abr 70 0 0 0 6 = true) (Nat.le_refl _) (Nat.le_refl _)
    refine ev_ialdv f_X12_isPort (nx := 11) (w := (gi 70 0)) rfl (hI.wf.s rfl) (by decide) (rfl : (0 : Int32).toNatClampNeg = 0) (by decide) rfl rfl ?_
    refine ev_if f_X12_isPort (t1 := 18) (t2 := 14) rfl rfl rfl (fun h6 => ?_) (fun h6 => ?_)
    · have r7 : (gi 70 0).toInt ≤ ar1.toInt := Int32.le_iff_toInt_le.mp h6
      refine ev_ic f_X12_isPort (nx := 19) (v := 0) rfl (by decide) rfl ?_
      refine ev_retK1 f_X12_isPort rfl rfl rfl ?_
      refine ev_t f_X12_far (t1 := 37) (t2 := 8) rfl rfl rfl (by decide) ?_
      refine ev_loc f_X12_far (nx := 38) rfl rfl rfl rfl ?_
      refine ev_ic f_X12_far (nx := 39) (v := 1) rfl (by decide) rfl ?_
      refine ev_inV2 f_X12_far (nx := 42) (lo2 := [(0, .ref 69), (1, .int 1)]) rfl rfl rfl rfl f_X12_refuse (hI.wf.s rfl) rfl rfl rfl rfl rfl ?_
      refine ev_loc f_X12_refuse (nx := 1) rfl rfl rfl rfl ?_
      refine ev_loc f_X12_refuse (nx := 2) rfl rfl rfl rfl ?_
      refine ev_putIT f_X12_refuse (nx := 5) rfl (hI.wf.s rfl) rfl rfl rfl (hI.put0 (hI.wf.s rfl) rfl rfl) (hX.upI rfl) (fun g8 e8 hI hX => ?_)
      refine ev_ic f_X12_refuse (nx := 6) (v := -1) rfl (by decide) rfl ?_
      refine ev_retK1 f_X12_refuse rfl rfl rfl ?_
      exact ev_ret f_X12_far rfl rfl rfl ⟨_, _, _, rfl, hI, hX, ⟨_, rfl, (by decide : ((-1):Int) ≤ ((-1):Int32).toInt), (Int.le_trans (by decide : ((-1):Int32).toInt ≤ ((-1):Int)) (by decide : ((-1):Int) ≤ 64)), (show ∀ D : s_D, t_ME 0 gi D → t_Cb D → ((0 ≤ ar1.toInt ∧ ar1.toInt < D 0 ∧ 0 ≤ ar2.toInt ∧ ar2.toInt < D 0) → ((-1) : Int) = ((v_pS 8 (s_hd D ar1.toInt ^^^ s_hd D ar2.toInt).toBitVec.toNat : Nat) : Int)) ∧ (¬ (0 ≤ ar1.toInt ∧ ar1.toInt < D 0 ∧ 0 ≤ ar2.toInt ∧ ar2.toInt < D 0) → ((-1) : Int) = -1) from (by
                                                            intro D hm hb
                                                            have h0 : (gi 70 0).toInt = D 0 := hm.1.1.1
                                                            exact ⟨fun h => absurd h (by omega), fun _ => rfl⟩))⟩⟩
    · have r9 : ar1.toInt < (gi 70 0).toInt := Int32.lt_iff_toInt_lt.mp (t_nle h6)
      have u10 : ar1.toInt ≤ 5 := t_ltu (t_nle h6) u5 rfl
      have l11 : 1 ≤ (gi 70 0).toInt := t_ltl (t_nle h6) l4 rfl
      refine ev_ic f_X12_isPort (nx := 15) (v := 1) rfl (by decide) rfl ?_
      refine ev_jmp f_X12_isPort (nx := 19) rfl rfl rfl ?_
      refine ev_retK1 f_X12_isPort rfl rfl rfl ?_
      refine ev_f f_X12_far (t1 := 37) (t2 := 8) rfl rfl rfl (by decide) ?_
      refine ev_loc f_X12_far (nx := 9) rfl rfl rfl rfl ?_
      refine ev_loc f_X12_far (nx := 10) rfl rfl rfl rfl ?_
      refine ev_inV2 f_X12_far (nx := 13) (lo2 := [(0, .ref 69), (1, .int ar2)]) rfl rfl rfl rfl f_X12_isPort (hI.wf.s rfl) rfl rfl rfl rfl rfl ?_
      refine ev_loc f_X12_isPort (nx := 1) rfl rfl rfl rfl ?_
      refine ev_if f_X12_isPort (t1 := 18) (t2 := 4) rfl rfl rfl (fun h12 => ?_) (fun h12 => ?_)
      · have u13 : ar2.toInt ≤ (-1) := t_ltu h12 (by decide : (0:Int32).toInt ≤ (0:Int)) rfl
        refine ev_ic f_X12_isPort (nx := 19) (v := 0) rfl (by decide) rfl ?_
        refine ev_retK1 f_X12_isPort rfl rfl rfl ?_
        refine ev_t f_X12_far (t1 := 37) (t2 := 16) rfl rfl rfl (by decide) ?_
        refine ev_loc f_X12_far (nx := 38) rfl rfl rfl rfl ?_
        refine ev_ic f_X12_far (nx := 39) (v := 1) rfl (by decide) rfl ?_
        refine ev_inV2 f_X12_far (nx := 42) (lo2 := [(0, .ref 69), (1, .int 1)]) rfl rfl rfl rfl f_X12_refuse (hI.wf.s rfl) rfl rfl rfl rfl rfl ?_
        refine ev_loc f_X12_refuse (nx := 1) rfl rfl rfl rfl ?_
        refine ev_loc f_X12_refuse (nx := 2) rfl rfl rfl rfl ?_
        refine ev_putIT f_X12_refuse (nx := 5) rfl (hI.wf.s rfl) rfl rfl rfl (hI.put0 (hI.wf.s rfl) rfl rfl) (hX.upI rfl) (fun g14 e14 hI hX => ?_)
        refine ev_ic f_X12_refuse (nx := 6) (v := -1) rfl (by decide) rfl ?_
        refine ev_retK1 f_X12_refuse rfl rfl rfl ?_
        exact ev_ret f_X12_far rfl rfl rfl ⟨_, _, _, rfl, hI, hX, ⟨_, rfl, (by decide : ((-1):Int) ≤ ((-1):Int32).toInt), (Int.le_trans (by decide : ((-1):Int32).toInt ≤ ((-1):Int)) (by decide : ((-1):Int) ≤ 64)), (show ∀ D : s_D, t_ME 0 gi D → t_Cb D → ((0 ≤ ar1.toInt ∧ ar1.toInt < D 0 ∧ 0 ≤ ar2.toInt ∧ ar2.toInt < D 0) → ((-1) : Int) = ((v_pS 8 (s_hd D ar1.toInt ^^^ s_hd D ar2.toInt).toBitVec.toNat : Nat) : Int)) ∧ (¬ (0 ≤ ar1.toInt ∧ ar1.toInt < D 0 ∧ 0 ≤ ar2.toInt ∧ ar2.toInt < D 0) → ((-1) : Int) = -1) from (by
                                                            intro D hm hb
                                                            have h0 : (gi 70 0).toInt = D 0 := hm.1.1.1
                                                            exact ⟨fun h => absurd h (by omega), fun _ => rfl⟩))⟩⟩
      · have l15 : 0 ≤ ar2.toInt := t_lel (t_nlt h12) (by decide : (0:Int) ≤ (0:Int32).toInt)
        refine ev_loc f_X12_isPort (nx := 5) rfl rfl rfl rfl ?_
        refine ev_loc f_X12_isPort (nx := 6) rfl rfl rfl rfl ?_
        refine ev_getR f_X12_isPort (nx := 9) rfl (hI.wf.s rfl) rfl rfl (hI.wf.r rfl) rfl rfl ?_
        refine ev_ic f_X12_isPort (nx := 10) (v := 0) rfl (by decide) rfl ?_
        refine ev_ialdv f_X12_isPort (nx := 11) (w := (gi 70 0)) rfl (hI.wf.s rfl) (by decide) (rfl : (0 : Int32).toNatClampNeg = 0) (by decide) rfl rfl ?_
        refine ev_if f_X12_isPort (t1 := 18) (t2 := 14) rfl rfl rfl (fun h17 => ?_) (fun h17 => ?_)
        · have r18 : (gi 70 0).toInt ≤ ar2.toInt := Int32.le_iff_toInt_le.mp h17
          have l19 : 1 ≤ ar2.toInt := t_lel h17 l11
          refine ev_ic f_X12_isPort (nx := 19) (v := 0) rfl (by decide) rfl ?_
          refine ev_retK1 f_X12_isPort rfl rfl rfl ?_
          refine ev_t f_X12_far (t1 := 37) (t2 := 16) rfl rfl rfl (by decide) ?_
          refine ev_loc f_X12_far (nx := 38) rfl rfl rfl rfl ?_
          refine ev_ic f_X12_far (nx := 39) (v := 1) rfl (by decide) rfl ?_
          refine ev_inV2 f_X12_far (nx := 42) (lo2 := [(0, .ref 69), (1, .int 1)]) rfl rfl rfl rfl f_X12_refuse (hI.wf.s rfl) rfl rfl rfl rfl rfl ?_
          refine ev_loc f_X12_refuse (nx := 1) rfl rfl rfl rfl ?_
          refine ev_loc f_X12_refuse (nx := 2) rfl rfl rfl rfl ?_
          refine ev_putIT f_X12_refuse (nx := 5) rfl (hI.wf.s rfl) rfl rfl rfl (hI.put0 (hI.wf.s rfl) rfl rfl) (hX.upI rfl) (fun g20 e20 hI hX => ?_)
          refine ev_ic f_X12_refuse (nx := 6) (v := -1) rfl (by decide) rfl ?_
          refine ev_retK1 f_X12_refuse rfl rfl rfl ?_
          exact ev_ret f_X12_far rfl rfl rfl ⟨_, _, _, rfl, hI, hX, ⟨_, rfl, (by decide : ((-1):Int) ≤ ((-1):Int32).toInt), (Int.le_trans (by decide : ((-1):Int32).toInt ≤ ((-1):Int)) (by decide : ((-1):Int) ≤ 64)), (show ∀ D : s_D, t_ME 0 gi D → t_Cb D → ((0 ≤ ar1.toInt ∧ ar1.toInt < D 0 ∧ 0 ≤ ar2.toInt ∧ ar2.toInt < D 0) → ((-1) : Int) = ((v_pS 8 (s_hd D ar1.toInt ^^^ s_hd D ar2.toInt).toBitVec.toNat : Nat) : Int)) ∧ (¬ (0 ≤ ar1.toInt ∧ ar1.toInt < D 0 ∧ 0 ≤ ar2.toInt ∧ ar2.toInt < D 0) → ((-1) : Int) = -1) from (by
                                                            intro D hm hb
                                                            have h0 : (gi 70 0).toInt = D 0 := hm.1.1.1
                                                            exact ⟨fun h => absurd h (by omega), fun _ => rfl⟩))⟩⟩
        · have r21 : ar2.toInt < (gi 70 0).toInt := Int32.lt_iff_toInt_lt.mp (t_nle h17)
          have u22 : ar2.toInt ≤ 5 := t_ltu (t_nle h17) u5 rfl
          refine ev_ic f_X12_isPort (nx := 15) (v := 1) rfl (by decide) rfl ?_
          refine ev_jmp f_X12_isPort (nx := 19) rfl rfl rfl ?_
          refine ev_retK1 f_X12_isPort rfl rfl rfl ?_
          refine ev_f f_X12_far (t1 := 37) (t2 := 16) rfl rfl rfl (by decide) ?_
          refine ev_loc f_X12_far (nx := 17) rfl rfl rfl rfl ?_
          refine ev_loc f_X12_far (nx := 18) rfl rfl rfl rfl ?_
          refine ev_loc f_X12_far (nx := 19) rfl rfl rfl rfl ?_
          refine ev_qL0 f_X12_far (nx := 22) (r := [.ref 69]) rfl rfl rfl rfl rfl rfl rfl (c_n_heardOf hI (ar1) l4 u10) rfl (fun w23 q23 => ?_)
          have q23 : (0 ≤ w23.toInt ∧ w23.toInt < 8589934592) ∧ ∀ D : s_D, t_ME 0 gi D → ar1.toInt < D 0 → w23 = s_ec (s_so D ar1.toNatClampNeg) (D 7) := q23
          refine ev_loc f_X12_far (nx := 23) rfl rfl rfl rfl ?_
          refine ev_loc f_X12_far (nx := 24) rfl rfl rfl rfl ?_
          refine ev_qL0 f_X12_far (nx := 27) (r := [.long w23, .ref 69]) rfl rfl rfl rfl rfl rfl rfl (c_n_heardOf hI (ar2) l15 u22) rfl (fun w24 q24 => ?_)
          have q24 : (0 ≤ w24.toInt ∧ w24.toInt < 8589934592) ∧ ∀ D : s_D, t_ME 0 gi D → ar2.toInt < D 0 → w24 = s_ec (s_so D ar2.toNatClampNeg) (D 7) := q24
          refine ev_anyLE f_X12_far (nx := 28) rfl rfl rfl rfl (fun z25 e25 => ?_)
          refine ev_qI0 f_X12_far (nx := 31) (r := [.ref 69]) rfl rfl rfl rfl rfl rfl rfl (c_n_bits2 hI (z25)) rfl (fun w26 l26 u26 q26 => ?_)
          have q26 : w26.toInt = ((v_pS 8 z25.toUInt64.toNat : Nat) : Int) := q26
          refine ev_inV2 f_X12_far (nx := 34) (lo2 := [(0, .ref 69), (1, .int w26)]) rfl rfl rfl rfl f_X12_gives (hI.wf.s rfl) rfl rfl rfl rfl rfl ?_
          refine ev_loc f_X12_gives (nx := 1) rfl rfl rfl rfl ?_
          refine ev_ic f_X12_gives (nx := 2) (v := 0) rfl (by decide) rfl ?_
          refine ev_putIT f_X12_gives (nx := 5) rfl (hI.wf.s rfl) rfl rfl rfl (hI.put0 (hI.wf.s rfl) rfl rfl) (hX.upI rfl) (fun g27 e27 hI hX => ?_)
          refine ev_loc f_X12_gives (nx := 6) rfl rfl rfl rfl ?_
          refine ev_retK1 f_X12_gives rfl rfl rfl ?_
          refine ev_jmp f_X12_far (nx := 42) rfl rfl rfl ?_
          exact ev_ret f_X12_far rfl rfl rfl ⟨_, _, _, rfl, hI, hX, ⟨_, rfl, (Int.le_trans (by decide : ((-1):Int) ≤ 0) l26), u26, (show ∀ D : s_D, t_ME 0 gi D → t_Cb D → ((0 ≤ ar1.toInt ∧ ar1.toInt < D 0 ∧ 0 ≤ ar2.toInt ∧ ar2.toInt < D 0) → w26.toInt = ((v_pS 8 (s_hd D ar1.toInt ^^^ s_hd D ar2.toInt).toBitVec.toNat : Nat) : Int)) ∧ (¬ (0 ≤ ar1.toInt ∧ ar1.toInt < D 0 ∧ 0 ≤ ar2.toInt ∧ ar2.toInt < D 0) → w26.toInt = -1) from (by
                                                            intro D hm hb
                                                            have h0 : (gi 70 0).toInt = D 0 := hm.1.1.1
                                                            refine ⟨fun _ => ?_, fun h => absurd (show _ from ⟨by omega, by omega, by omega, by omega⟩) h⟩
                                                            have hq := q26
                                                            rw [e25, (q23.2 D hm (by omega)).trans ((s_hd_i (D := D) (p := ar1.toInt) (by omega) (by omega)).trans (by rw [show ar1.toInt.toNat = ar1.toNatClampNeg from (by have := t_clamp (i := ar1) (by omega); omega)])).symm, (q24.2 D hm (by omega)).trans ((s_hd_i (D := D) (p := ar2.toInt) (by omega) (by omega)).trans (by rw [show ar2.toInt.toNat = ar2.toNatClampNeg from (by have := t_clamp (i := ar2) (by omega); omega)])).symm] at hq
                                                            exact hq))⟩⟩
/-! ===== far: the answers are alike ===== -/
section FARL
variable {sh : List (Nat ⊕ (Nat × Nat))} {gi g1 g2 : Nat → Nat → Int32} {gl l1 l2 : Nat → Nat → Int64} {gr r1 r2 : Nat → Nat → Value} {w1 : List (Nat × Nat)} {A A2 x1 x2 : Int32}
theorem t_L_far (hD : t_DR sh.length gi gl gr) (f1 : t_F w1 gi gl gr g1 l1 r1) (h70 : t_nc w1 70 = true) (q1 : Q_d_far gi gl gr A A2 x1 g1 l1 r1) (q2 : Q_e_far g1 l1 r1 A A2 x2 g2 l2 r2) : x1 = x2 := by
  obtain ⟨u, D, hu, hl, hc, hb, hm, -⟩ := t_D_0 hD f1 h70
  have k1 := q1 u D hu hl hc hb
  have k2 := q2 D hm hb
  apply Int32.toInt_inj.mp
  by_cases hin : 0 ≤ A.toInt ∧ A.toInt < D 0 ∧ 0 ≤ A2.toInt ∧ A2.toInt < D 0
  · rw [k1.1 hin, k2.1 hin]
  · rw [k1.2 hin, k2.2 hin]
end FARL
