/-! ===== printed by riv.py: slack ===== -/
noncomputable def wl_d_canEndWithin : List (Nat × Nat) := [(28, 4), (28, 5)]
noncomputable def Q_d_canEndWithin (gi : Nat → Nat → Int32) (gl : Nat → Nat → Int64) (gr : Nat → Nat → Value) (ar1 : Int32) (ar2 : Int32) (ar3 : Int32) (ar4 : Int32) (ar5 : Int32) : Int32 → (Nat → Nat → Int32) → (Nat → Nat → Int64) → (Nat → Nat → Value) → Prop := fun (v : Int32) (gi2 : Nat → Nat → Int32) (gl2 : Nat → Nat → Int64) (gr2 : Nat → Nat → Value) => ∀ P : Nat → Nat → Int, s_CP P gi gr → s_PB P → s_PO P → 0 ≤ ar1.toInt → ar1.toInt ≤ 2000 → ar3.toInt ≤ P 0 0 → ar4.toInt ≤ P 0 1 → 0 ≤ ar5.toInt → ar5.toInt ≤ 999999999 → (v.toInt = 1 ↔ s_LS P ar1.toInt ar2.toNatClampNeg ar3.toNatClampNeg ar4.toNatClampNeg ≤ ar5.toInt)
theorem c_d_canEndWithin {X : x_Ext} {d : Nat} {sh : List (Nat ⊕ (Nat × Nat))} {gi : Nat → Nat → Int32} {gl : Nat → Nat → Int64} {gr : Nat → Nat → Value} (hI : t_I sh gi gr) (ar1 : Int32) (ar2 : Int32) (l_a2 : 0 ≤ ar2.toInt) (u_a2 : ar2.toInt ≤ 1) (ar3 : Int32) (l_a3 : 0 ≤ ar3.toInt) (u_a3 : ar3.toInt ≤ 6) (ar4 : Int32) (l_a4 : 0 ≤ ar4.toInt) (u_a4 : ar4.toInt ≤ 6) (ar5 : Int32) : x_Me X (d + 17) n_X1_canEndWithin [.ref 28, .int ar1, .int ar2, .int ar3, .int ar4, .int ar5] (sh, gi, gl, gr) (t_PI wl_d_canEndWithin sh gi gl gr 0 1 (Q_d_canEndWithin gi gl gr ar1 ar2 ar3 ar4 ar5)) := by
  have hX : t_X wl_d_canEndWithin sh gi gl gr gi gl gr := t_X.rf
  refine me_i f_X1_canEndWithin (hI.wf.s rfl) rfl rfl rfl ?_
  refine ev_loc f_X1_canEndWithin (nx := 1) rfl rfl rfl rfl ?_
  refine ev_loc f_X1_canEndWithin (nx := 3) rfl rfl rfl rfl ?_
  refine ev_ic f_X1_canEndWithin (nx := 4) (v := 1) rfl (by decide) rfl ?_
  refine ev_anyIE f_X1_canEndWithin (nx := 5) rfl rfl rfl rfl (fun z1 e1 => ?_)
  refine ev_putIT f_X1_canEndWithin (nx := 8) rfl (hI.wf.s rfl) rfl rfl rfl (hI.put0 (hI.wf.s rfl) rfl rfl) (hX.upI rfl) (fun g2 e2 hI hX => ?_)
  refine ev_loc f_X1_canEndWithin (nx := 9) rfl rfl rfl rfl ?_
  refine ev_loc f_X1_canEndWithin (nx := 11) rfl rfl rfl rfl ?_
  refine ev_putIT f_X1_canEndWithin (nx := 14) rfl (hI.wf.s rfl) rfl rfl rfl (hI.put0 (hI.wf.s rfl) rfl rfl) (hX.upI rfl) (fun g3 e3 hI hX => ?_)
  refine ev_loc f_X1_canEndWithin (nx := 15) rfl rfl rfl rfl ?_
  have hXh := hX
  refine ev_loc f_X1_canEndWithin (nx := 16) rfl rfl rfl rfl ?_
  refine ev_loc f_X1_canEndWithin (nx := 17) rfl rfl rfl rfl ?_
  refine ev_loc f_X1_canEndWithin (nx := 18) rfl rfl rfl rfl ?_
  refine ev_loc f_X1_canEndWithin (nx := 20) rfl rfl rfl rfl ?_
  refine ev_ic f_X1_canEndWithin (nx := 21) (v := 0) rfl (by decide) rfl ?_
  refine ev_qN f_X1_canEndWithin (nx := 24) (r := []) rfl rfl rfl rfl rfl rfl rfl (c_d_search hI (ar1) (ar2) l_a2 u_a2 (ar3) l_a3 u_a3 (ar4) l_a4 u_a4 (0)) rfl hX rfl (fun gi4 gl4 gr4 hI hX hC4 q4 => ?_)
  have ff5 : (g3 28 4).toInt = z1.toInt := congrArg Int32.toInt ((by rw [e3]; exact x_up2_off (Or.inr (by decide)) : g3 28 4 = g2 28 4).trans (by rw [e2]; exact x_up2_at _ _ _ _ : g2 28 4 = z1))
  have ff6 : (g3 28 5).toInt = ar5.toInt := congrArg Int32.toInt (by rw [e3]; exact x_up2_at _ _ _ _ : g3 28 5 = ar5)
  have q4 : ∀ P : Nat → Nat → Int, s_CP P g3 gr → s_PB P → s_PO P → 0 ≤ ar1.toInt → ar1.toInt ≤ 2000 → ar3.toInt ≤ P 0 0 → ar4.toInt ≤ P 0 1 → 0 ≤ (0 : Int) → (0 : Int) ≤ 240000 * (ar3.toInt + ar4.toInt) → (g3 28 4).toInt ≤ 1000000000 → s_BB (g3 28 4).toInt (g3 28 5).toInt ((0 : Int) + s_LS P ar1.toInt ar2.toNatClampNeg ar3.toNatClampNeg ar4.toNatClampNeg) (gi4 28 4).toInt := q4
  refine ev_loc f_X1_canEndWithin (nx := 25) rfl rfl rfl rfl ?_
  refine ev_getI f_X1_canEndWithin (nx := 28) rfl (hI.wf.s rfl) rfl rfl rfl ?_
  refine ev_loc f_X1_canEndWithin (nx := 30) rfl rfl rfl rfl ?_
  refine ev_if f_X1_canEndWithin (t1 := 37) (t2 := 33) rfl rfl rfl (fun h7 => ?_) (fun h7 => ?_)
  · have r8 : ar5.toInt < (gi4 28 4).toInt := Int32.lt_iff_toInt_lt.mp h7
    have u9 : ar5.toInt ≤ 2147483646 := t_ltu h7 (t_hi (gi4 28 4)) rfl
    have l10 : (-2147483647) ≤ (gi4 28 4).toInt := t_ltl h7 (t_lo ar5) rfl
    refine ev_ic f_X1_canEndWithin (nx := 38) (v := 0) rfl (by decide) rfl ?_
    exact ev_ret f_X1_canEndWithin rfl rfl rfl ⟨_, _, _, rfl, hI, hX, ⟨_, rfl, (by decide : (0:Int) ≤ (0:Int32).toInt), (Int.le_trans (by decide : (0:Int32).toInt ≤ (0:Int)) (by decide : (0:Int) ≤ 1)), (show ∀ P : Nat → Nat → Int, s_CP P gi gr → s_PB P → s_PO P → 0 ≤ ar1.toInt → ar1.toInt ≤ 2000 → ar3.toInt ≤ P 0 0 → ar4.toInt ≤ P 0 1 → 0 ≤ ar5.toInt → ar5.toInt ≤ 999999999 → ((0 : Int) = 1 ↔ s_LS P ar1.toInt ar2.toNatClampNeg ar3.toNatClampNeg ar4.toNatClampNeg ≤ ar5.toInt) from (by
                                                            intro P hc hb hp h1 h2 h3 h4 h5 h6
                                                            have hc2 := hc.fr hXh rfl rfl
                                                            have k1 : (1 : Int32).toInt = 1 := rfl
                                                            have hz : z1.toInt = ar5.toInt + 1 := s_add e1 rfl rfl (by omega)
                                                            have h7 : (g3 28 4).toInt = ar5.toInt + 1 := by rw [e3, x_up2_off (Or.inr (by decide)), e2, x_up2_at]; exact hz
                                                            have h8 : (g3 28 5).toInt = ar5.toInt := by rw [e3, x_up2_at]
                                                            have hq := q4 P hc2 hb hp h1 h2 h3 h4 (by decide) (by omega) (by rw [h7]; omega)
                                                            rw [h7, h8, Int.zero_add] at hq
                                                            have hle := s_BB_le hq
                                                            constructor
                                                            · intro h; exact hle.mp (by omega)
                                                            · intro h; have h9 := hle.mpr h; omega))⟩⟩
  · have r11 : (gi4 28 4).toInt ≤ ar5.toInt := Int32.le_iff_toInt_le.mp (t_nlt h7)
    refine ev_ic f_X1_canEndWithin (nx := 34) (v := 1) rfl (by decide) rfl ?_
    refine ev_jmp f_X1_canEndWithin (nx := 38) rfl rfl rfl ?_
    exact ev_ret f_X1_canEndWithin rfl rfl rfl ⟨_, _, _, rfl, hI, hX, ⟨_, rfl, (Int.le_trans (by decide : (0:Int) ≤ 1) (by decide : (1:Int) ≤ (1:Int32).toInt)), (by decide : (1:Int32).toInt ≤ (1:Int)), (show ∀ P : Nat → Nat → Int, s_CP P gi gr → s_PB P → s_PO P → 0 ≤ ar1.toInt → ar1.toInt ≤ 2000 → ar3.toInt ≤ P 0 0 → ar4.toInt ≤ P 0 1 → 0 ≤ ar5.toInt → ar5.toInt ≤ 999999999 → ((1 : Int) = 1 ↔ s_LS P ar1.toInt ar2.toNatClampNeg ar3.toNatClampNeg ar4.toNatClampNeg ≤ ar5.toInt) from (by
                                                            intro P hc hb hp h1 h2 h3 h4 h5 h6
                                                            have hc2 := hc.fr hXh rfl rfl
                                                            have k1 : (1 : Int32).toInt = 1 := rfl
                                                            have hz : z1.toInt = ar5.toInt + 1 := s_add e1 rfl rfl (by omega)
                                                            have h7 : (g3 28 4).toInt = ar5.toInt + 1 := by rw [e3, x_up2_off (Or.inr (by decide)), e2, x_up2_at]; exact hz
                                                            have h8 : (g3 28 5).toInt = ar5.toInt := by rw [e3, x_up2_at]
                                                            have hq := q4 P hc2 hb hp h1 h2 h3 h4 (by decide) (by omega) (by rw [h7]; omega)
                                                            rw [h7, h8, Int.zero_add] at hq
                                                            have hle := s_BB_le hq
                                                            constructor
                                                            · intro h; exact hle.mp (by omega)
                                                            · intro h; have h9 := hle.mpr h; omega))⟩⟩
noncomputable def wl_d_slack : List (Nat × Nat) := [(0, 0), (28, 0), (28, 1), (28, 4), (28, 5), (29, 0), (30, 9999), (31, 9999), (32, 9999), (33, 9999), (34, 9999), (35, 0), (36, 9999), (37, 9999), (38, 9999), (39, 9999), (40, 9999)]
noncomputable def Q_d_slack (gi : Nat → Nat → Int32) (gl : Nat → Nat → Int64) (gr : Nat → Nat → Value) (ar1 : Int32) : Int32 → (Nat → Nat → Int32) → (Nat → Nat → Int64) → (Nat → Nat → Value) → Prop := fun (v : Int32) (gi2 : Nat → Nat → Int32) (gl2 : Nat → Nat → Int64) (gr2 : Nat → Nat → Value) => ∀ (u : Nat) (D : s_D), gr 0 6 = .ref u → t_VL gr u → t_CV gi gl u D → t_Cb D → (u = 3 ∨ 102 ≤ u) → (∀ s : Nat, (s : Int) < D 1 → 0 ≤ D (56 + 5 * s) ∧ D (56 + 5 * s) ≤ 1) → s_DB D → ((0 ≤ ar1.toInt ∧ ar1.toInt < D 1 ∧ (s_LS (s_PD D (D 4)) 0 0 0 0) < 1000000000) → v.toInt = ((s_lg (s_sf D ar1.toInt) (s_LS (s_PD D (D 4)) 0 0 0 0) 60 : Nat) : Int)) ∧ (¬ (0 ≤ ar1.toInt ∧ ar1.toInt < D 1 ∧ (s_LS (s_PD D (D 4)) 0 0 0 0) < 1000000000) → v.toInt = -1)
theorem c_d_slack {X : x_Ext} {d : Nat} {sh : List (Nat ⊕ (Nat × Nat))} {gi : Nat → Nat → Int32} {gl : Nat → Nat → Int64} {gr : Nat → Nat → Value} (hI : t_I sh gi gr) (ar1 : Int32) : x_Me X (d + 19) n_X11_slack [.ref 0, .int ar1] (sh, gi, gl, gr) (t_PI wl_d_slack sh gi gl gr (-1) 60 (Q_d_slack gi gl gr ar1)) := by
  have hX : t_X wl_d_slack sh gi gl gr gi gl gr := t_X.rf
  refine me_i f_X11_slack (hI.wf.s rfl) rfl rfl rfl ?_
  refine ev_loc f_X11_slack (nx := 1) rfl rfl rfl rfl ?_
  refine ev_loc f_X11_slack (nx := 2) rfl rfl rfl rfl ?_
  refine ev_inV2 f_X11_slack (nx := 5) (lo2 := [(0, .ref 0), (1, .int ar1)]) rfl rfl rfl rfl f_X11_isShip (hI.wf.s rfl) rfl rfl rfl rfl rfl ?_
  refine ev_loc f_X11_isShip (nx := 1) rfl rfl rfl rfl ?_
  refine ev_if f_X11_isShip (t1 := 22) (t2 := 4) rfl rfl rfl (fun h1 => ?_) (fun h1 => ?_)
  · have u2 : ar1.toInt ≤ (-1) := t_ltu h1 (by decide : (0:Int32).toInt ≤ (0:Int)) rfl
    refine ev_ic f_X11_isShip (nx := 23) (v := 0) rfl (by decide) rfl ?_
    refine ev_retK1 f_X11_isShip rfl rfl rfl ?_
    refine ev_t f_X11_slack (t1 := 8) (t2 := 14) rfl rfl rfl (by decide) ?_
    refine ev_loc f_X11_slack (nx := 9) rfl rfl rfl rfl ?_
    refine ev_ic f_X11_slack (nx := 10) (v := 1) rfl (by decide) rfl ?_
    refine ev_inV2 f_X11_slack (nx := 13) (lo2 := [(0, .ref 0), (1, .int 1)]) rfl rfl rfl rfl f_X11_refuse (hI.wf.s rfl) rfl rfl rfl rfl rfl ?_
    refine ev_loc f_X11_refuse (nx := 1) rfl rfl rfl rfl ?_
    refine ev_loc f_X11_refuse (nx := 2) rfl rfl rfl rfl ?_
    refine ev_putIT f_X11_refuse (nx := 5) rfl (hI.wf.s rfl) rfl rfl rfl (hI.put0 (hI.wf.s rfl) rfl rfl) (hX.upI rfl) (fun g3 e3 hI hX => ?_)
    refine ev_ic f_X11_refuse (nx := 6) (v := -1) rfl (by decide) rfl ?_
    refine ev_retK1 f_X11_refuse rfl rfl rfl ?_
    exact ev_ret f_X11_slack rfl rfl rfl ⟨_, _, _, rfl, hI, hX, ⟨_, rfl, (by decide : ((-1):Int) ≤ ((-1):Int32).toInt), (Int.le_trans (by decide : ((-1):Int32).toInt ≤ ((-1):Int)) (by decide : ((-1):Int) ≤ 60)), (show ∀ (u : Nat) (D : s_D), gr 0 6 = .ref u → t_VL gr u → t_CV gi gl u D → t_Cb D → (u = 3 ∨ 102 ≤ u) → (∀ s : Nat, (s : Int) < D 1 → 0 ≤ D (56 + 5 * s) ∧ D (56 + 5 * s) ≤ 1) → s_DB D → ((0 ≤ ar1.toInt ∧ ar1.toInt < D 1 ∧ (s_LS (s_PD D (D 4)) 0 0 0 0) < 1000000000) → ((-1) : Int) = ((s_lg (s_sf D ar1.toInt) (s_LS (s_PD D (D 4)) 0 0 0 0) 60 : Nat) : Int)) ∧ (¬ (0 ≤ ar1.toInt ∧ ar1.toInt < D 1 ∧ (s_LS (s_PD D (D 4)) 0 0 0 0) < 1000000000) → ((-1) : Int) = -1) from (by
                                                            intro u D hu hl hc hb hv hsl hd
                                                            have hL := hc.2.2.1.1
                                                            exact ⟨fun h => absurd (And.intro h.1 h.2.1) (by omega), fun _ => rfl⟩))⟩⟩
  · have l4 : 0 ≤ ar1.toInt := t_lel (t_nlt h1) (by decide : (0:Int) ≤ (0:Int32).toInt)
    refine ev_loc f_X11_isShip (nx := 5) rfl rfl rfl rfl ?_
    refine ev_loc f_X11_isShip (nx := 6) rfl rfl rfl rfl ?_
    obtain ⟨a5, e5, p5⟩ := hI.2.2.2.1.1
    refine ev_getR f_X11_isShip (nx := 9) rfl (hI.wf.s rfl) rfl rfl e5 rfl rfl ?_
    obtain ⟨a6, e6, p6⟩ := p5.2.2.2.2.1
    refine ev_getR f_X11_isShip (nx := 12) rfl p5.1 rfl rfl e6 rfl rfl ?_
    refine ev_getI f_X11_isShip (nx := 15) rfl p6.1 rfl rfl rfl ?_
    obtain ⟨l7, u7⟩ := hI.b p6.1 (t_bdK rfl : t_bd 3 0 = some (0, 6))
    refine ev_if f_X11_isShip (t1 := 22) (t2 := 18) rfl rfl rfl (fun h8 => ?_) (fun h8 => ?_)
    · have r9 : (gi a6 0).toInt ≤ ar1.toInt := Int32.le_iff_toInt_le.mp h8
      refine ev_ic f_X11_isShip (nx := 23) (v := 0) rfl (by decide) rfl ?_
      refine ev_retK1 f_X11_isShip rfl rfl rfl ?_
      refine ev_t f_X11_slack (t1 := 8) (t2 := 14) rfl rfl rfl (by decide) ?_
      refine ev_loc f_X11_slack (nx := 9) rfl rfl rfl rfl ?_
      refine ev_ic f_X11_slack (nx := 10) (v := 1) rfl (by decide) rfl ?_
      refine ev_inV2 f_X11_slack (nx := 13) (lo2 := [(0, .ref 0), (1, .int 1)]) rfl rfl rfl rfl f_X11_refuse (hI.wf.s rfl) rfl rfl rfl rfl rfl ?_
      refine ev_loc f_X11_refuse (nx := 1) rfl rfl rfl rfl ?_
      refine ev_loc f_X11_refuse (nx := 2) rfl rfl rfl rfl ?_
      refine ev_putIT f_X11_refuse (nx := 5) rfl (hI.wf.s rfl) rfl rfl rfl (hI.put0 (hI.wf.s rfl) rfl rfl) (hX.upI rfl) (fun g10 e10 hI hX => ?_)
      refine ev_ic f_X11_refuse (nx := 6) (v := -1) rfl (by decide) rfl ?_
      refine ev_retK1 f_X11_refuse rfl rfl rfl ?_
      exact ev_ret f_X11_slack rfl rfl rfl ⟨_, _, _, rfl, hI, hX, ⟨_, rfl, (by decide : ((-1):Int) ≤ ((-1):Int32).toInt), (Int.le_trans (by decide : ((-1):Int32).toInt ≤ ((-1):Int)) (by decide : ((-1):Int) ≤ 60)), (show ∀ (u : Nat) (D : s_D), gr 0 6 = .ref u → t_VL gr u → t_CV gi gl u D → t_Cb D → (u = 3 ∨ 102 ≤ u) → (∀ s : Nat, (s : Int) < D 1 → 0 ≤ D (56 + 5 * s) ∧ D (56 + 5 * s) ≤ 1) → s_DB D → ((0 ≤ ar1.toInt ∧ ar1.toInt < D 1 ∧ (s_LS (s_PD D (D 4)) 0 0 0 0) < 1000000000) → ((-1) : Int) = ((s_lg (s_sf D ar1.toInt) (s_LS (s_PD D (D 4)) 0 0 0 0) 60 : Nat) : Int)) ∧ (¬ (0 ≤ ar1.toInt ∧ ar1.toInt < D 1 ∧ (s_LS (s_PD D (D 4)) 0 0 0 0) < 1000000000) → ((-1) : Int) = -1) from (by
                                                            intro u D hu hl hc hb hv hsl hd
                                                            have ha : a5 = u := Value.ref.inj (e5.symm.trans hu)
                                                            subst ha
                                                            have hb1 : (a5 + 3) = a6 := Value.ref.inj ((hl.1.2.2.2.1).symm.trans e6)
                                                            subst hb1
                                                            have hL := hc.2.2.1.1
                                                            exact ⟨fun h => absurd (And.intro h.1 h.2.1) (by omega), fun _ => rfl⟩))⟩⟩
    · have r11 : ar1.toInt < (gi a6 0).toInt := Int32.lt_iff_toInt_lt.mp (t_nle h8)
      have u12 : ar1.toInt ≤ 5 := t_ltu (t_nle h8) u7 rfl
      have l13 : 1 ≤ (gi a6 0).toInt := t_ltl (t_nle h8) l4 rfl
      refine ev_ic f_X11_isShip (nx := 19) (v := 1) rfl (by decide) rfl ?_
      refine ev_jmp f_X11_isShip (nx := 23) rfl rfl rfl ?_
      refine ev_retK1 f_X11_isShip rfl rfl rfl ?_
      refine ev_f f_X11_slack (t1 := 8) (t2 := 14) rfl rfl rfl (by decide) ?_
      refine ev_loc f_X11_slack (nx := 15) rfl rfl rfl rfl ?_
      refine ev_inV1 f_X11_slack (nx := 18) (lo2 := [(0, .ref 0)]) rfl rfl rfl rfl f_X11_leastAsTold (hI.wf.s rfl) rfl rfl rfl rfl rfl ?_
      refine ev_loc f_X11_leastAsTold (nx := 1) rfl rfl rfl rfl ?_
      refine ev_getR f_X11_leastAsTold (nx := 4) rfl (hI.wf.s rfl) rfl rfl (hI.wf.r rfl) rfl rfl ?_
      refine ev_loc f_X11_leastAsTold (nx := 5) rfl rfl rfl rfl ?_
      refine ev_getR f_X11_leastAsTold (nx := 8) (v := .ref a5) rfl (hI.wf.s rfl) rfl rfl e5 rfl rfl ?_
      refine ev_qN f_X11_leastAsTold (nx := 11) (r := []) rfl rfl rfl rfl rfl rfl rfl (c_d_takeAll hI (a5) p5) rfl hX rfl (fun gi14 gl14 gr14 hI hX hC14 q14 => ?_)
      have q14 : ∀ D : s_D, t_VL gr a5 → t_CV gi gl a5 D → (a5 = 3 ∨ 102 ≤ a5) → t_Cb D → (∀ s : Nat, (s : Int) < D 1 → 0 ≤ D (56 + 5 * s) ∧ D (56 + 5 * s) ≤ 1) → s_CP (s_PD D (D 4)) gi14 gr14 ∧ gr14 28 0 = .ref a5 ∧ t_CV gi14 gl14 a5 D ∧ (gi14 28 1).toInt = D 4 := q14
      replace p5 := p5.ext hC14.2
      replace p6 := p6.ext hC14.2
      refine ev_loc f_X11_leastAsTold (nx := 12) rfl rfl rfl rfl ?_
      refine ev_getR f_X11_leastAsTold (nx := 15) rfl (hI.wf.s rfl) rfl rfl (hI.wf.r rfl) rfl rfl ?_
      refine ev_qI f_X11_leastAsTold (nx := 18) (r := []) rfl rfl rfl rfl rfl rfl rfl (c_d_leastWaits hI ) rfl hX rfl (fun w15 gi15 gl15 gr15 l15 u15 hI hX hC15 q15 => ?_)
      have q15 : ∀ P : Nat → Nat → Int, s_CP P gi14 gr14 → s_PB P → s_PO P → w15.toInt = s_LS P 0 0 0 0 := q15
      replace p5 := p5.ext hC15.2
      replace p6 := p6.ext hC15.2
      refine ev_retK1 f_X11_leastAsTold rfl rfl rfl ?_
      refine ev_loc f_X11_slack (nx := 19) (lo' := [(2, .int w15), (0, .ref 0), (1, .int ar1)]) rfl rfl rfl rfl ?_
      refine ev_loc f_X11_slack (nx := 20) rfl rfl rfl rfl ?_
      refine ev_ldW f_X11_slack (nx := 23) (v := 1000000000) rfl (by decide) rfl ?_
      refine ev_if f_X11_slack (t1 := 33) (t2 := 26) rfl rfl rfl (fun h16 => ?_) (fun h16 => ?_)
      · have u17 : w15.toInt ≤ 999999999 := t_ltu h16 (by decide : (1000000000:Int32).toInt ≤ (1000000000:Int)) rfl
        refine ev_bp f_X11_slack (nx := 35) (v := 60) rfl (by decide) rfl ?_
        refine ev_loc f_X11_slack (nx := 36) (lo' := [(3, .int 60), (2, .int w15), (0, .ref 0), (1, .int ar1)]) rfl rfl rfl rfl ?_
        have L18 : ∀ (m18 : Nat) (gi18 : Nat → Nat → Int32) (gl18 : Nat → Nat → Int64) (gr18 : Nat → Nat → Value) (y18_3 : Int32), t_I sh gi18 gr18 → t_X wl_d_slack sh gi gl gr gi18 gl18 gr18 → t_Rv sh gr18 a5 → t_Ln sh gr18 a6 → 0 ≤ y18_3.toInt → y18_3.toInt ≤ 60 → gr18 a5 7 = .ref a6 → gr18 0 6 = .ref a5 → (∀ (u : Nat) (D : s_D), gr 0 6 = .ref u → t_VL gr u → t_CV gi gl u D → t_Cb D → (u = 3 ∨ 102 ≤ u) → (∀ s : Nat, (s : Int) < D 1 → 0 ≤ D (56 + 5 * s) ∧ D (56 + 5 * s) ≤ 1) → s_DB D → s_KP D u gi18 gr18 ∧ w15.toInt = (s_LS (s_PD D (D 4)) 0 0 0 0) ∧ ((s_lg (s_sf D ar1.toInt) (s_LS (s_PD D (D 4)) 0 0 0 0) 60 : Nat) : Int) = ((s_lg (s_sf D ar1.toInt) (s_LS (s_PD D (D 4)) 0 0 0 0) y18_3.toNatClampNeg : Nat) : Int) ∧ 0 ≤ ar1.toInt ∧ ar1.toInt < D 1) → (y18_3.toInt - 0).toNat = m18 → x_Ev X (d + 19) n_X11_slack 36 [(3, .int y18_3), (2, .int w15), (0, .ref 0), (1, .int ar1)] [] (sh, gi18, gl18, gr18) (t_PI wl_d_slack sh gi gl gr (-1) 60 (Q_d_slack gi gl gr ar1)) := by
          intro m18
          induction m18 using Nat.strongRecOn with
          | _ m18 ih18 =>
          intro gi18 gl18 gr18 y18_3 hI hX p5 p6 l18_3 u18_3 c18_0 c18_1 j18_0 hm18
          refine ev_loc f_X11_slack (nx := 37) rfl rfl rfl rfl ?_
          have hXh := hX
          refine ev_if f_X11_slack (t1 := 77) (t2 := 40) rfl rfl rfl (fun h19 => ?_) (fun h19 => ?_)
          · have u20 : y18_3.toInt ≤ 0 := t_leu h19 (by decide : (0:Int32).toInt ≤ (0:Int))
            refine ev_loc f_X11_slack (nx := 78) rfl rfl rfl rfl ?_
            refine ev_ic f_X11_slack (nx := 79) (v := 0) rfl (by decide) rfl ?_
            refine ev_inV2 f_X11_slack (nx := 82) (lo2 := [(0, .ref 0), (1, .int 0)]) rfl rfl rfl rfl f_X11_answer (hI.wf.s rfl) rfl rfl rfl rfl rfl ?_
            refine ev_loc f_X11_answer (nx := 1) rfl rfl rfl rfl ?_
            refine ev_ic f_X11_answer (nx := 2) (v := 0) rfl (by decide) rfl ?_
            refine ev_putIT f_X11_answer (nx := 5) rfl (hI.wf.s rfl) rfl rfl rfl (hI.put0 (hI.wf.s rfl) rfl rfl) (hX.upI rfl) (fun g21 e21 hI hX => ?_)
            refine ev_loc f_X11_answer (nx := 6) rfl rfl rfl rfl ?_
            refine ev_retK1 f_X11_answer rfl rfl rfl ?_
            exact ev_ret f_X11_slack rfl rfl rfl ⟨_, _, _, rfl, hI, hX, ⟨_, rfl, (Int.le_trans (by decide : ((-1):Int) ≤ 0) (by decide : (0:Int) ≤ (0:Int32).toInt)), (Int.le_trans (by decide : (0:Int32).toInt ≤ (0:Int)) (by decide : (0:Int) ≤ 60)), (show ∀ (u : Nat) (D : s_D), gr 0 6 = .ref u → t_VL gr u → t_CV gi gl u D → t_Cb D → (u = 3 ∨ 102 ≤ u) → (∀ s : Nat, (s : Int) < D 1 → 0 ≤ D (56 + 5 * s) ∧ D (56 + 5 * s) ≤ 1) → s_DB D → ((0 ≤ ar1.toInt ∧ ar1.toInt < D 1 ∧ (s_LS (s_PD D (D 4)) 0 0 0 0) < 1000000000) → (0 : Int) = ((s_lg (s_sf D ar1.toInt) (s_LS (s_PD D (D 4)) 0 0 0 0) 60 : Nat) : Int)) ∧ (¬ (0 ≤ ar1.toInt ∧ ar1.toInt < D 1 ∧ (s_LS (s_PD D (D 4)) 0 0 0 0) < 1000000000) → (0 : Int) = -1) from (by
                                                            intro u D hu hl hc hb hv hsl hd
                                                            obtain ⟨g1, g2, g3, g4, g5⟩ := j18_0 u D hu hl hc hb hv hsl hd
                                                            have hr := s_lg_0 g3 (by omega) (by omega)
                                                            exact ⟨fun _ => hr.symm, fun h => absurd (show _ from ⟨g4, g5, by omega⟩) h⟩))⟩⟩
          · have l22 : 1 ≤ y18_3.toInt := t_ltl (t_nle h19) (by decide : (0:Int) ≤ (0:Int32).toInt) rfl
            refine ev_loc f_X11_slack (nx := 41) rfl rfl rfl rfl ?_
            refine ev_getR f_X11_slack (nx := 44) rfl (hI.wf.s rfl) rfl rfl (hI.wf.r rfl) rfl rfl ?_
            refine ev_loc f_X11_slack (nx := 45) rfl rfl rfl rfl ?_
            refine ev_getR f_X11_slack (nx := 48) (v := .ref a5) rfl (hI.wf.s rfl) rfl rfl c18_1 rfl rfl ?_
            refine ev_ic f_X11_slack (nx := 49) (v := 0) rfl (by decide) rfl ?_
            refine ev_loc f_X11_slack (nx := 50) rfl rfl rfl rfl ?_
            refine ev_loc f_X11_slack (nx := 51) rfl rfl rfl rfl ?_
            refine ev_qN f_X11_slack (nx := 54) (r := []) rfl rfl rfl rfl rfl rfl rfl (c_d_takeShipsG hI (a5) p5 (0) (ar1) (y18_3) (Int.le_trans (by decide : (0:Int) ≤ 1) l22) (Int.le_trans u18_3 (by decide : (60:Int) ≤ 500))) rfl hX rfl (fun gi23 gl23 gr23 hI hX hC23 q23 => ?_)
            have q23 : ∀ D : s_D, t_VL gr18 a5 → t_CV gi18 gl18 a5 D → (a5 = 3 ∨ 102 ≤ a5) → t_Cb D → s_DB D → (∀ s : Nat, (s : Int) < D 1 → 0 ≤ D (56 + 5 * s) ∧ D (56 + 5 * s) ≤ 1) → (gi23 29 0).toInt = ((s_fn (s_mk (0 : Int32)) (D 1).toNat : Nat) : Int) ∧ s_RF (s_ff (s_Al (s_A D) ar1.toInt y18_3.toInt) (s_mk (0 : Int32)) (D 1).toNat) (fun k => (k : Int)) (gi23 30) (s_fn (s_mk (0 : Int32)) (D 1).toNat) ∧ s_RF (s_ff (s_Al (s_A D) ar1.toInt y18_3.toInt) (s_mk (0 : Int32)) (D 1).toNat) (s_Al (s_A D) ar1.toInt y18_3.toInt) (gi23 31) (s_fn (s_mk (0 : Int32)) (D 1).toNat) ∧ s_RF (s_ff (s_Al (s_A D) ar1.toInt y18_3.toInt) (s_mk (0 : Int32)) (D 1).toNat) (fun k => D (54 + 5 * k)) (gi23 32) (s_fn (s_mk (0 : Int32)) (D 1).toNat) ∧ s_RF (s_ff (s_Al (s_A D) ar1.toInt y18_3.toInt) (s_mk (0 : Int32)) (D 1).toNat) (fun k => D (55 + 5 * k)) (gi23 33) (s_fn (s_mk (0 : Int32)) (D 1).toNat) ∧ s_RF (s_ff (s_Al (s_A D) ar1.toInt y18_3.toInt) (s_mk (0 : Int32)) (D 1).toNat) (fun k => D (56 + 5 * k)) (gi23 34) (s_fn (s_mk (0 : Int32)) (D 1).toNat) := q23
            replace p6 := p6.ext hC23.2
            replace p5 := p5.ext hC23.2
            refine ev_loc f_X11_slack (nx := 55) rfl rfl rfl rfl ?_
            have hXi := hX
            refine ev_getR f_X11_slack (nx := 58) rfl (hI.wf.s rfl) rfl rfl (hI.wf.r rfl) rfl rfl ?_
            refine ev_loc f_X11_slack (nx := 59) rfl rfl rfl rfl ?_
            refine ev_inV2 f_X11_slack (nx := 62) (lo2 := [(0, .ref 28), (1, .int w15)]) rfl rfl rfl rfl f_X1_canPassWithin (hI.wf.s rfl) rfl rfl rfl rfl rfl ?_
            refine ev_loc f_X1_canPassWithin (nx := 1) rfl rfl rfl rfl ?_
            refine ev_ic f_X1_canPassWithin (nx := 2) (v := 0) rfl (by decide) rfl ?_
            refine ev_ic f_X1_canPassWithin (nx := 3) (v := 0) rfl (by decide) rfl ?_
            refine ev_ic f_X1_canPassWithin (nx := 4) (v := 0) rfl (by decide) rfl ?_
            refine ev_ic f_X1_canPassWithin (nx := 5) (v := 0) rfl (by decide) rfl ?_
            refine ev_loc f_X1_canPassWithin (nx := 6) rfl rfl rfl rfl ?_
            refine ev_qI f_X1_canPassWithin (nx := 9) (r := []) rfl rfl rfl rfl rfl rfl rfl (c_d_canEndWithin hI (0) (0) (by decide : (0:Int) ≤ (0:Int32).toInt) (Int.le_trans (by decide : (0:Int32).toInt ≤ (0:Int)) (by decide : (0:Int) ≤ 1)) (0) (by decide : (0:Int) ≤ (0:Int32).toInt) (Int.le_trans (by decide : (0:Int32).toInt ≤ (0:Int)) (by decide : (0:Int) ≤ 6)) (0) (by decide : (0:Int) ≤ (0:Int32).toInt) (Int.le_trans (by decide : (0:Int32).toInt ≤ (0:Int)) (by decide : (0:Int) ≤ 6)) (w15)) rfl hX rfl (fun w24 gi24 gl24 gr24 l24 u24 hI hX hC24 q24 => ?_)
            have q24 : ∀ P : Nat → Nat → Int, s_CP P gi23 gr23 → s_PB P → s_PO P → 0 ≤ (0 : Int) → (0 : Int) ≤ 2000 → (0 : Int) ≤ P 0 0 → (0 : Int) ≤ P 0 1 → 0 ≤ w15.toInt → w15.toInt ≤ 999999999 → (w24.toInt = 1 ↔ s_LS P (0 : Int) (0 : Int32).toNatClampNeg (0 : Int32).toNatClampNeg (0 : Int32).toNatClampNeg ≤ w15.toInt) := q24
            replace p6 := p6.ext hC24.2
            replace p5 := p5.ext hC24.2
            refine ev_retK1 f_X1_canPassWithin rfl rfl (t_rz l24 u24) ?_
            refine ev_if f_X11_slack (t1 := 71) (t2 := 65) rfl rfl rfl (fun h25 => ?_) (fun h25 => ?_)
            · have u26 : w24.toInt ≤ 0 := t_equ h25 (by decide : (0:Int32).toInt ≤ (0:Int))
              refine ev_incR f_X11_slack (nx := 74) (c := (-1)) (l := 0) (u := 59) rfl rfl (by decide) (by decide) l22 u18_3 rfl rfl (by decide) (by decide) rfl (fun z27 e27 l27 u27 => ?_)
              refine ev_jmp f_X11_slack (nx := 36) rfl rfl rfl ?_
              refine ev_sub (lo := [(3, .int z27), (2, .int w15), (0, .ref 0), (1, .int ar1)]) rfl (t_sc rfl (t_sc rfl (t_sc rfl (t_sc rfl t_sn)))) ?_
              exact ih18 _ (by omega) gi24 gl24 gr24 (z27) hI hX p5 p6 l27 (Int.le_trans u27 (by decide : (59:Int) ≤ 60)) ((hC24.1 a5 7 (t_ninO hI.wf p5.1 (t_outO hI.wf p5.1 rfl) rfl)).2.2.trans ((hC23.1 a5 7 (t_ninO hI.wf p5.1 (t_outO hI.wf p5.1 rfl) rfl)).2.2.trans c18_0)) ((hC24.1 0 6 rfl).2.2.trans ((hC23.1 0 6 rfl).2.2.trans c18_1)) (by
                                                            intro u D hu hl hc hb hv hsl hd
                                                            obtain ⟨g1, g2, g3, g4, g5⟩ := j18_0 u D hu hl hc hb hv hsl hd
                                                            have hun : gr18 0 6 = .ref u := ((t_F_X hXh) 0 6 (by decide) rfl).2.2.trans hu
                                                            have ha := Value.ref.inj (c18_1.symm.trans hun)
                                                            subst ha
                                                            have hKh := t_nd_fr hXh rfl
                                                            have hlh := hl.fr (fun K k1 k2 => hKh K (by omega))
                                                            have hch := hc.fr (fun K k1 k2 => hKh K (by omega))
                                                            have hs := q23 D hlh hch hv hb hd hsl
                                                            have hKi := t_nd_fr hXi rfl
                                                            have hci := hc.fr (fun K k1 k2 => hKi K (by omega))
                                                            have c1 := t_clamp (i := y18_3) (by omega)
                                                            have hAb := s_Al_b (w := ar1.toInt) (l := y18_3.toInt) hd (by omega) (by omega)
                                                            have hcp := (g1.fr hC23 rfl).cp hv hci hs.1 hs.2.2.1 hs.2.2.2.1 hs.2.2.2.2.1 hs.2.2.2.2.2
                                                            have hPO := s_PX_O (q := D 4) (m := 0) (x := -1) hb hd hd.2.2.1.1 hAb.1
                                                            have hPB := s_PX_B (q := D 4) (m := 0) (x := -1) hb hd ⟨hd.2.2.1.1, hd.2.2.1.2⟩ hAb.2
                                                            have hlo := s_LS_lo (s_PD_O hb hd hd.2.2.1.1) 0 0 0 0
                                                            have hcw := q24 _ hcp hPB hPO (by decide) (by decide) hPB.1.1 hPB.1.2.2.1 (by omega) (by omega)
                                                            rw [← c1, g2] at hcw
                                                            have hno : ¬ s_sf _ ar1.toInt y18_3.toNatClampNeg ≤ _ := fun hh => by have h9 := hcw.mpr hh; omega
                                                            exact ⟨(g1.fr hC23 rfl).fr hC24 rfl, g2, s_lg_dn g3 (by omega) hno (by omega), g4, g5⟩) rfl
            · have r28 : w24.toInt ≠ 0 := fun e => h25 (Int32.toInt_inj.mp (e.trans (by decide : (0:Int) = (0 : Int32).toInt)))
              have l29 : 1 ≤ w24.toInt := t_nel h25 l24 rfl rfl
              refine ev_loc f_X11_slack (nx := 66) rfl rfl rfl rfl ?_
              refine ev_loc f_X11_slack (nx := 67) rfl rfl rfl rfl ?_
              refine ev_inV2 f_X11_slack (nx := 70) (lo2 := [(0, .ref 0), (1, .int y18_3)]) rfl rfl rfl rfl f_X11_answer (hI.wf.s rfl) rfl rfl rfl rfl rfl ?_
              refine ev_loc f_X11_answer (nx := 1) rfl rfl rfl rfl ?_
              refine ev_ic f_X11_answer (nx := 2) (v := 0) rfl (by decide) rfl ?_
              refine ev_putIT f_X11_answer (nx := 5) rfl (hI.wf.s rfl) rfl rfl rfl (hI.put0 (hI.wf.s rfl) rfl rfl) (hX.upI rfl) (fun g30 e30 hI hX => ?_)
              refine ev_loc f_X11_answer (nx := 6) rfl rfl rfl rfl ?_
              refine ev_retK1 f_X11_answer rfl rfl rfl ?_
              exact ev_ret f_X11_slack rfl rfl rfl ⟨_, _, _, rfl, hI, hX, ⟨_, rfl, (Int.le_trans (by decide : ((-1):Int) ≤ 1) l22), u18_3, (show ∀ (u : Nat) (D : s_D), gr 0 6 = .ref u → t_VL gr u → t_CV gi gl u D → t_Cb D → (u = 3 ∨ 102 ≤ u) → (∀ s : Nat, (s : Int) < D 1 → 0 ≤ D (56 + 5 * s) ∧ D (56 + 5 * s) ≤ 1) → s_DB D → ((0 ≤ ar1.toInt ∧ ar1.toInt < D 1 ∧ (s_LS (s_PD D (D 4)) 0 0 0 0) < 1000000000) → y18_3.toInt = ((s_lg (s_sf D ar1.toInt) (s_LS (s_PD D (D 4)) 0 0 0 0) 60 : Nat) : Int)) ∧ (¬ (0 ≤ ar1.toInt ∧ ar1.toInt < D 1 ∧ (s_LS (s_PD D (D 4)) 0 0 0 0) < 1000000000) → y18_3.toInt = -1) from (by
                                                            intro u D hu hl hc hb hv hsl hd
                                                            obtain ⟨g1, g2, g3, g4, g5⟩ := j18_0 u D hu hl hc hb hv hsl hd
                                                            have hun : gr18 0 6 = .ref u := ((t_F_X hXh) 0 6 (by decide) rfl).2.2.trans hu
                                                            have ha := Value.ref.inj (c18_1.symm.trans hun)
                                                            subst ha
                                                            have hKh := t_nd_fr hXh rfl
                                                            have hlh := hl.fr (fun K k1 k2 => hKh K (by omega))
                                                            have hch := hc.fr (fun K k1 k2 => hKh K (by omega))
                                                            have hs := q23 D hlh hch hv hb hd hsl
                                                            have hKi := t_nd_fr hXi rfl
                                                            have hci := hc.fr (fun K k1 k2 => hKi K (by omega))
                                                            have c1 := t_clamp (i := y18_3) (by omega)
                                                            have hAb := s_Al_b (w := ar1.toInt) (l := y18_3.toInt) hd (by omega) (by omega)
                                                            have hcp := (g1.fr hC23 rfl).cp hv hci hs.1 hs.2.2.1 hs.2.2.2.1 hs.2.2.2.2.1 hs.2.2.2.2.2
                                                            have hPO := s_PX_O (q := D 4) (m := 0) (x := -1) hb hd hd.2.2.1.1 hAb.1
                                                            have hPB := s_PX_B (q := D 4) (m := 0) (x := -1) hb hd ⟨hd.2.2.1.1, hd.2.2.1.2⟩ hAb.2
                                                            have hlo := s_LS_lo (s_PD_O hb hd hd.2.2.1.1) 0 0 0 0
                                                            have hcw := q24 _ hcp hPB hPO (by decide) (by decide) hPB.1.1 hPB.1.2.2.1 (by omega) (by omega)
                                                            rw [← c1, g2] at hcw
                                                            have hyes : s_sf _ ar1.toInt y18_3.toNatClampNeg ≤ _ := hcw.mp (by omega)
                                                            have hr := s_lg_at g3 (by omega) hyes
                                                            exact ⟨fun _ => hr.symm, fun h => absurd (show _ from ⟨g4, g5, by omega⟩) h⟩))⟩⟩
        refine ev_sub (lo := [(3, .int 60), (2, .int w15), (0, .ref 0), (1, .int ar1)]) rfl (t_sc rfl (t_sc rfl (t_sc rfl (t_sc rfl t_sn)))) ?_
        exact L18 _ gi15 gl15 gr15 (60) hI hX p5 p6 (Int.le_trans (by decide : (0:Int) ≤ 60) (by decide : (60:Int) ≤ (60:Int32).toInt)) (by decide : (60:Int32).toInt ≤ (60:Int)) ((hC15.1 a5 7 (t_ninO hI.wf p5.1 (t_outO hI.wf p5.1 rfl) rfl)).2.2.trans ((hC14.1 a5 7 (t_ninO hI.wf p5.1 (t_outO hI.wf p5.1 rfl) rfl)).2.2.trans e6)) ((hC15.1 0 6 rfl).2.2.trans ((hC14.1 0 6 rfl).2.2.trans e5)) (by
                                                            intro u D hu hl hc hb hv hsl hd
                                                            have ha : a5 = u := Value.ref.inj (e5.symm.trans hu)
                                                            subst ha
                                                            have hb1 : (a5 + 3) = a6 := Value.ref.inj ((hl.1.2.2.2.1).symm.trans e6)
                                                            subst hb1
                                                            have hL := hc.2.2.1.1
                                                            have hq := q14 D hl hc hv hb hsl
                                                            have hq2 := q15 _ hq.1 (s_PD_B hb hd ⟨hd.2.2.1.1, hd.2.2.1.2⟩) (s_PD_O hb hd hd.2.2.1.1)
                                                            exact ⟨(s_KP_of hq.1 hq.2.1 hq.2.2.2).fr hC15 rfl, hq2, rfl, by omega, by omega⟩) rfl
      · have l31 : 1000000000 ≤ w15.toInt := t_lel (t_nlt h16) (by decide : (1000000000:Int) ≤ (1000000000:Int32).toInt)
        refine ev_loc f_X11_slack (nx := 27) rfl rfl rfl rfl ?_
        refine ev_bp f_X11_slack (nx := 29) (v := 6) rfl (by decide) rfl ?_
        refine ev_inV2 f_X11_slack (nx := 32) (lo2 := [(0, .ref 0), (1, .int 6)]) rfl rfl rfl rfl f_X11_refuse (hI.wf.s rfl) rfl rfl rfl rfl rfl ?_
        refine ev_loc f_X11_refuse (nx := 1) rfl rfl rfl rfl ?_
        refine ev_loc f_X11_refuse (nx := 2) rfl rfl rfl rfl ?_
        refine ev_putIT f_X11_refuse (nx := 5) rfl (hI.wf.s rfl) rfl rfl rfl (hI.put0 (hI.wf.s rfl) rfl rfl) (hX.upI rfl) (fun g32 e32 hI hX => ?_)
        refine ev_ic f_X11_refuse (nx := 6) (v := -1) rfl (by decide) rfl ?_
        refine ev_retK1 f_X11_refuse rfl rfl rfl ?_
        exact ev_ret f_X11_slack rfl rfl rfl ⟨_, _, _, rfl, hI, hX, ⟨_, rfl, (by decide : ((-1):Int) ≤ ((-1):Int32).toInt), (Int.le_trans (by decide : ((-1):Int32).toInt ≤ ((-1):Int)) (by decide : ((-1):Int) ≤ 60)), (show ∀ (u : Nat) (D : s_D), gr 0 6 = .ref u → t_VL gr u → t_CV gi gl u D → t_Cb D → (u = 3 ∨ 102 ≤ u) → (∀ s : Nat, (s : Int) < D 1 → 0 ≤ D (56 + 5 * s) ∧ D (56 + 5 * s) ≤ 1) → s_DB D → ((0 ≤ ar1.toInt ∧ ar1.toInt < D 1 ∧ (s_LS (s_PD D (D 4)) 0 0 0 0) < 1000000000) → ((-1) : Int) = ((s_lg (s_sf D ar1.toInt) (s_LS (s_PD D (D 4)) 0 0 0 0) 60 : Nat) : Int)) ∧ (¬ (0 ≤ ar1.toInt ∧ ar1.toInt < D 1 ∧ (s_LS (s_PD D (D 4)) 0 0 0 0) < 1000000000) → ((-1) : Int) = -1) from (by
                                                            intro u D hu hl hc hb hv hsl hd
                                                            have ha : a5 = u := Value.ref.inj (e5.symm.trans hu)
                                                            subst ha
                                                            have hb1 : (a5 + 3) = a6 := Value.ref.inj ((hl.1.2.2.2.1).symm.trans e6)
                                                            subst hb1
                                                            have hL := hc.2.2.1.1
                                                            have hq := q14 D hl hc hv hb hsl
                                                            have hq2 := q15 _ hq.1 (s_PD_B hb hd ⟨hd.2.2.1.1, hd.2.2.1.2⟩) (s_PD_O hb hd hd.2.2.1.1)
                                                            exact ⟨fun h => absurd h.2.2 (by omega), fun _ => rfl⟩))⟩⟩
/-! ===== printed by riv.py: slack: the other side ===== -/
noncomputable def wl_e_slack : List (Nat × Nat) := [(69, 2), (69, 44), (69, 45), (69, 48), (89, 10005), (89, 610011), (90, 9999), (91, 9999), (92, 9999)]
noncomputable def Q_e_slack (gi : Nat → Nat → Int32) (gl : Nat → Nat → Int64) (gr : Nat → Nat → Value) (ar1 : Int32) : Int32 → (Nat → Nat → Int32) → (Nat → Nat → Int64) → (Nat → Nat → Value) → Prop := fun (v : Int32) (gi2 : Nat → Nat → Int32) (gl2 : Nat → Nat → Int64) (gr2 : Nat → Nat → Value) => ∀ D : s_D, t_ME 0 gi D → t_Cb D → s_DB D → (gi 69 46).toInt = -1 → ((0 ≤ ar1.toInt ∧ ar1.toInt < D 1 ∧ (s_LS (s_PD D (D 4)) 0 0 0 0) < 1000000000) → v.toInt = ((s_lg (s_sf D ar1.toInt) (s_LS (s_PD D (D 4)) 0 0 0 0) 60 : Nat) : Int)) ∧ (¬ (0 ≤ ar1.toInt ∧ ar1.toInt < D 1 ∧ (s_LS (s_PD D (D 4)) 0 0 0 0) < 1000000000) → v.toInt = -1)
theorem c_e_slack {X : x_Ext} {d : Nat} {sh : List (Nat ⊕ (Nat × Nat))} {gi : Nat → Nat → Int32} {gl : Nat → Nat → Int64} {gr : Nat → Nat → Value} (hI : t_I sh gi gr) (ar1 : Int32) (e_p0 : 1 ≤ (gi 70 4).toInt) : x_Me X (d + 6) n_X12_slack [.ref 69, .int ar1] (sh, gi, gl, gr) (t_PI wl_e_slack sh gi gl gr (-1) 60 (Q_e_slack gi gl gr ar1)) := by
  have hX : t_X wl_e_slack sh gi gl gr gi gl gr := t_X.rf
  refine me_i f_X12_slack (hI.wf.s rfl) rfl rfl rfl ?_
  obtain ⟨l2, u2⟩ := hI.ab (by decide +kernel : t_abr 70 4 4 0 20 = true) (Nat.le_refl _) (Nat.le_refl _)
  refine ev_loc f_X12_slack (nx := 1) rfl rfl rfl rfl ?_
  refine ev_loc f_X12_slack (nx := 2) rfl rfl rfl rfl ?_
  refine ev_inV2 f_X12_slack (nx := 5) (lo2 := [(0, .ref 69), (1, .int ar1)]) rfl rfl rfl rfl f_X12_isShip (hI.wf.s rfl) rfl rfl rfl rfl rfl ?_
  refine ev_loc f_X12_isShip (nx := 1) rfl rfl rfl rfl ?_
  refine ev_if f_X12_isShip (t1 := 18) (t2 := 4) rfl rfl rfl (fun h3 => ?_) (fun h3 => ?_)
  · have u4 : ar1.toInt ≤ (-1) := t_ltu h3 (by decide : (0:Int32).toInt ≤ (0:Int)) rfl
    refine ev_ic f_X12_isShip (nx := 19) (v := 0) rfl (by decide) rfl ?_
    refine ev_retK1 f_X12_isShip rfl rfl rfl ?_
    refine ev_t f_X12_slack (t1 := 8) (t2 := 14) rfl rfl rfl (by decide) ?_
    refine ev_loc f_X12_slack (nx := 9) rfl rfl rfl rfl ?_
    refine ev_ic f_X12_slack (nx := 10) (v := 1) rfl (by decide) rfl ?_
    refine ev_inV2 f_X12_slack (nx := 13) (lo2 := [(0, .ref 69), (1, .int 1)]) rfl rfl rfl rfl f_X12_refuse (hI.wf.s rfl) rfl rfl rfl rfl rfl ?_
    refine ev_loc f_X12_refuse (nx := 1) rfl rfl rfl rfl ?_
    refine ev_loc f_X12_refuse (nx := 2) rfl rfl rfl rfl ?_
    refine ev_putIT f_X12_refuse (nx := 5) rfl (hI.wf.s rfl) rfl rfl rfl (hI.put0 (hI.wf.s rfl) rfl rfl) (hX.upI rfl) (fun g5 e5 hI hX => ?_)
    refine ev_ic f_X12_refuse (nx := 6) (v := -1) rfl (by decide) rfl ?_
    refine ev_retK1 f_X12_refuse rfl rfl rfl ?_
    exact ev_ret f_X12_slack rfl rfl rfl ⟨_, _, _, rfl, hI, hX, ⟨_, rfl, (by decide : ((-1):Int) ≤ ((-1):Int32).toInt), (Int.le_trans (by decide : ((-1):Int32).toInt ≤ ((-1):Int)) (by decide : ((-1):Int) ≤ 60)), (show ∀ D : s_D, t_ME 0 gi D → t_Cb D → s_DB D → (gi 69 46).toInt = -1 → ((0 ≤ ar1.toInt ∧ ar1.toInt < D 1 ∧ (s_LS (s_PD D (D 4)) 0 0 0 0) < 1000000000) → ((-1) : Int) = ((s_lg (s_sf D ar1.toInt) (s_LS (s_PD D (D 4)) 0 0 0 0) 60 : Nat) : Int)) ∧ (¬ (0 ≤ ar1.toInt ∧ ar1.toInt < D 1 ∧ (s_LS (s_PD D (D 4)) 0 0 0 0) < 1000000000) → ((-1) : Int) = -1) from (by
                                                            intro D hm hb hd h46
                                                            have ha : (gi 70 1).toInt = D 1 := hm.1.1.2.1
                                                            exact ⟨fun h => absurd (And.intro h.1 h.2.1) (by omega), fun _ => rfl⟩))⟩⟩
  · have l6 : 0 ≤ ar1.toInt := t_lel (t_nlt h3) (by decide : (0:Int) ≤ (0:Int32).toInt)
    refine ev_loc f_X12_isShip (nx := 5) rfl rfl rfl rfl ?_
    refine ev_loc f_X12_isShip (nx := 6) rfl rfl rfl rfl ?_
    refine ev_getR f_X12_isShip (nx := 9) rfl (hI.wf.s rfl) rfl rfl (hI.wf.r rfl) rfl rfl ?_
    refine ev_ic f_X12_isShip (nx := 10) (v := 1) rfl (by decide) rfl ?_
    obtain ⟨l7, u7⟩ := hI.ab (by decide +kernel : t_abr 70 1 1 0 6 = true) (Nat.le_refl _) (Nat.le_refl _)
    refine ev_ialdv f_X12_isShip (nx := 11) (w := (gi 70 1)) rfl (hI.wf.s rfl) (by decide) (rfl : (1 : Int32).toNatClampNeg = 1) (by decide) rfl rfl ?_
    refine ev_if f_X12_isShip (t1 := 18) (t2 := 14) rfl rfl rfl (fun h8 => ?_) (fun h8 => ?_)
    · have r9 : (gi 70 1).toInt ≤ ar1.toInt := Int32.le_iff_toInt_le.mp h8
      refine ev_ic f_X12_isShip (nx := 19) (v := 0) rfl (by decide) rfl ?_
      refine ev_retK1 f_X12_isShip rfl rfl rfl ?_
      refine ev_t f_X12_slack (t1 := 8) (t2 := 14) rfl rfl rfl (by decide) ?_
      refine ev_loc f_X12_slack (nx := 9) rfl rfl rfl rfl ?_
      refine ev_ic f_X12_slack (nx := 10) (v := 1) rfl (by decide) rfl ?_
      refine ev_inV2 f_X12_slack (nx := 13) (lo2 := [(0, .ref 69), (1, .int 1)]) rfl rfl rfl rfl f_X12_refuse (hI.wf.s rfl) rfl rfl rfl rfl rfl ?_
      refine ev_loc f_X12_refuse (nx := 1) rfl rfl rfl rfl ?_
      refine ev_loc f_X12_refuse (nx := 2) rfl rfl rfl rfl ?_
      refine ev_putIT f_X12_refuse (nx := 5) rfl (hI.wf.s rfl) rfl rfl rfl (hI.put0 (hI.wf.s rfl) rfl rfl) (hX.upI rfl) (fun g10 e10 hI hX => ?_)
      refine ev_ic f_X12_refuse (nx := 6) (v := -1) rfl (by decide) rfl ?_
      refine ev_retK1 f_X12_refuse rfl rfl rfl ?_
      exact ev_ret f_X12_slack rfl rfl rfl ⟨_, _, _, rfl, hI, hX, ⟨_, rfl, (by decide : ((-1):Int) ≤ ((-1):Int32).toInt), (Int.le_trans (by decide : ((-1):Int32).toInt ≤ ((-1):Int)) (by decide : ((-1):Int) ≤ 60)), (show ∀ D : s_D, t_ME 0 gi D → t_Cb D → s_DB D → (gi 69 46).toInt = -1 → ((0 ≤ ar1.toInt ∧ ar1.toInt < D 1 ∧ (s_LS (s_PD D (D 4)) 0 0 0 0) < 1000000000) → ((-1) : Int) = ((s_lg (s_sf D ar1.toInt) (s_LS (s_PD D (D 4)) 0 0 0 0) 60 : Nat) : Int)) ∧ (¬ (0 ≤ ar1.toInt ∧ ar1.toInt < D 1 ∧ (s_LS (s_PD D (D 4)) 0 0 0 0) < 1000000000) → ((-1) : Int) = -1) from (by
                                                            intro D hm hb hd h46
                                                            have ha : (gi 70 1).toInt = D 1 := hm.1.1.2.1
                                                            exact ⟨fun h => absurd (And.intro h.1 h.2.1) (by omega), fun _ => rfl⟩))⟩⟩
    · have r11 : ar1.toInt < (gi 70 1).toInt := Int32.lt_iff_toInt_lt.mp (t_nle h8)
      have u12 : ar1.toInt ≤ 5 := t_ltu (t_nle h8) u7 rfl
      have l13 : 1 ≤ (gi 70 1).toInt := t_ltl (t_nle h8) l6 rfl
      refine ev_ic f_X12_isShip (nx := 15) (v := 1) rfl (by decide) rfl ?_
      refine ev_jmp f_X12_isShip (nx := 19) rfl rfl rfl ?_
      refine ev_retK1 f_X12_isShip rfl rfl rfl ?_
      refine ev_f f_X12_slack (t1 := 8) (t2 := 14) rfl rfl rfl (by decide) ?_
      refine ev_loc f_X12_slack (nx := 15) rfl rfl rfl rfl ?_
      refine ev_ic f_X12_slack (nx := 16) (v := 0) rfl (by decide) rfl ?_
      refine ev_loc f_X12_slack (nx := 17) rfl rfl rfl rfl ?_
      refine ev_getR f_X12_slack (nx := 20) rfl (hI.wf.s rfl) rfl rfl (hI.wf.r rfl) rfl rfl ?_
      refine ev_ic f_X12_slack (nx := 21) (v := 4) rfl (by decide) rfl ?_
      refine ev_ialdv f_X12_slack (nx := 22) (w := (gi 70 4)) rfl (hI.wf.s rfl) (by decide) (rfl : (4 : Int32).toNatClampNeg = 4) (by decide) rfl rfl ?_
      refine ev_qI f_X12_slack (nx := 25) (r := []) rfl rfl rfl rfl rfl rfl rfl (c_n_leastBy hI ((gi 70 4)) l2 u2 (by omega)) rfl hX rfl (fun w15 gi15 gl15 gr15 l15 u15 hI hX hC15 q15 => ?_)
      have q15 : ∀ D : s_D, t_ME 0 gi D → t_Cb D → s_DB D → (gi 69 46).toInt = -1 → w15.toInt = s_an (s_LS (s_PD D (gi 70 4).toInt) 0 0 0 0) := q15
      refine ev_loc f_X12_slack (nx := 26) (lo' := [(2, .int w15), (0, .ref 69), (1, .int ar1)]) rfl rfl rfl rfl ?_
      refine ev_loc f_X12_slack (nx := 27) rfl rfl rfl rfl ?_
      refine ev_ic f_X12_slack (nx := 28) (v := -1) rfl (by decide) rfl ?_
      refine ev_if f_X12_slack (t1 := 31) (t2 := 38) rfl rfl rfl (fun h16 => ?_) (fun h16 => ?_)
      · have u17 : w15.toInt ≤ (-1) := t_equ h16 (by decide : ((-1):Int32).toInt ≤ ((-1):Int))
        have l18 : (-1) ≤ w15.toInt := t_eql h16 (by decide : ((-1):Int) ≤ ((-1):Int32).toInt)
        refine ev_loc f_X12_slack (nx := 32) rfl rfl rfl rfl ?_
        refine ev_bp f_X12_slack (nx := 34) (v := 6) rfl (by decide) rfl ?_
        refine ev_inV2 f_X12_slack (nx := 37) (lo2 := [(0, .ref 69), (1, .int 6)]) rfl rfl rfl rfl f_X12_refuse (hI.wf.s rfl) rfl rfl rfl rfl rfl ?_
        refine ev_loc f_X12_refuse (nx := 1) rfl rfl rfl rfl ?_
        refine ev_loc f_X12_refuse (nx := 2) rfl rfl rfl rfl ?_
        refine ev_putIT f_X12_refuse (nx := 5) rfl (hI.wf.s rfl) rfl rfl rfl (hI.put0 (hI.wf.s rfl) rfl rfl) (hX.upI rfl) (fun g19 e19 hI hX => ?_)
        refine ev_ic f_X12_refuse (nx := 6) (v := -1) rfl (by decide) rfl ?_
        refine ev_retK1 f_X12_refuse rfl rfl rfl ?_
        exact ev_ret f_X12_slack rfl rfl rfl ⟨_, _, _, rfl, hI, hX, ⟨_, rfl, (by decide : ((-1):Int) ≤ ((-1):Int32).toInt), (Int.le_trans (by decide : ((-1):Int32).toInt ≤ ((-1):Int)) (by decide : ((-1):Int) ≤ 60)), (show ∀ D : s_D, t_ME 0 gi D → t_Cb D → s_DB D → (gi 69 46).toInt = -1 → ((0 ≤ ar1.toInt ∧ ar1.toInt < D 1 ∧ (s_LS (s_PD D (D 4)) 0 0 0 0) < 1000000000) → ((-1) : Int) = ((s_lg (s_sf D ar1.toInt) (s_LS (s_PD D (D 4)) 0 0 0 0) 60 : Nat) : Int)) ∧ (¬ (0 ≤ ar1.toInt ∧ ar1.toInt < D 1 ∧ (s_LS (s_PD D (D 4)) 0 0 0 0) < 1000000000) → ((-1) : Int) = -1) from (by
                                                            intro D hm hb hd h46
                                                            have ha : (gi 70 1).toInt = D 1 := hm.1.1.2.1
                                                            have hq := q15 D hm hb hd h46
                                                            have h4 : (gi 70 4).toInt = D 4 := hm.1.2.1
                                                            rw [h4] at hq
                                                            have hl0 := s_LS_lo (s_PD_O (q := D 4) hb hd hd.2.2.1.1) 0 0 0 0
                                                            have hn := (s_an_n hl0).mp (by omega)
                                                            exact ⟨fun h => absurd h.2.2 (by omega), fun _ => rfl⟩))⟩⟩
      · have r20 : w15.toInt ≠ (-1) := fun e => h16 (Int32.toInt_inj.mp (e.trans (by decide : ((-1):Int) = ((-1) : Int32).toInt)))
        refine ev_ic f_X12_slack (nx := 39) (v := 0) rfl (by decide) rfl ?_
        refine ev_loc f_X12_slack (nx := 40) (lo' := [(3, .int 0), (2, .int w15), (0, .ref 69), (1, .int ar1)]) rfl rfl rfl rfl ?_
        refine ev_ic f_X12_slack (nx := 41) (v := 1) rfl (by decide) rfl ?_
        refine ev_loc f_X12_slack (nx := 43) (lo' := [(4, .int 1), (3, .int 0), (2, .int w15), (0, .ref 69), (1, .int ar1)]) rfl rfl rfl rfl ?_
        have L21 : ∀ (m21 : Nat) (gi21 : Nat → Nat → Int32) (gl21 : Nat → Nat → Int64) (gr21 : Nat → Nat → Value) (y21_4 : Int32) (y21_3 : Int32), t_I sh gi21 gr21 → t_X wl_e_slack sh gi gl gr gi21 gl21 gr21 → 1 ≤ y21_4.toInt → y21_4.toInt ≤ 61 → 0 ≤ y21_3.toInt → y21_3.toInt ≤ 60 → gi21 69 46 = (gi 69 46) → gi21 70 1 = (gi 70 1) → gi21 70 4 = (gi 70 4) → (∀ D : s_D, t_ME 0 gi D → t_Cb D → s_DB D → (gi 69 46).toInt = -1 → w15.toInt = (s_LS (s_PD D (D 4)) 0 0 0 0) ∧ y21_3.toInt = ((s_lg (s_sf D ar1.toInt) (s_LS (s_PD D (D 4)) 0 0 0 0) (y21_4.toNatClampNeg - 1) : Nat) : Int) ∧ 0 ≤ ar1.toInt ∧ ar1.toInt < D 1 ∧ (s_LS (s_PD D (D 4)) 0 0 0 0) < 1000000000) → (61 - y21_4.toInt).toNat = m21 → x_Ev X (d + 6) n_X12_slack 43 [(4, .int y21_4), (3, .int y21_3), (2, .int w15), (0, .ref 69), (1, .int ar1)] [] (sh, gi21, gl21, gr21) (t_PI wl_e_slack sh gi gl gr (-1) 60 (Q_e_slack gi gl gr ar1)) := by
          intro m21
          induction m21 using Nat.strongRecOn with
          | _ m21 ih21 =>
          intro gi21 gl21 gr21 y21_4 y21_3 hI hX l21_4 u21_4 l21_3 u21_3 c21_0 c21_1 c21_2 j21_0 hm21
          refine ev_loc f_X12_slack (nx := 45) rfl rfl rfl rfl ?_
          have hXh := hX
          refine ev_bp f_X12_slack (nx := 47) (v := 60) rfl (by decide) rfl ?_
          refine ev_if f_X12_slack (t1 := 80) (t2 := 50) rfl rfl rfl (fun h22 => ?_) (fun h22 => ?_)
          · have l23 : 61 ≤ y21_4.toInt := t_ltl h22 (by decide : (60:Int) ≤ (60:Int32).toInt) rfl
            refine ev_loc f_X12_slack (nx := 81) rfl rfl rfl rfl ?_
            refine ev_loc f_X12_slack (nx := 82) rfl rfl rfl rfl ?_
            refine ev_inV2 f_X12_slack (nx := 85) (lo2 := [(0, .ref 69), (1, .int y21_3)]) rfl rfl rfl rfl f_X12_gives (hI.wf.s rfl) rfl rfl rfl rfl rfl ?_
            refine ev_loc f_X12_gives (nx := 1) rfl rfl rfl rfl ?_
            refine ev_ic f_X12_gives (nx := 2) (v := 0) rfl (by decide) rfl ?_
            refine ev_putIT f_X12_gives (nx := 5) rfl (hI.wf.s rfl) rfl rfl rfl (hI.put0 (hI.wf.s rfl) rfl rfl) (hX.upI rfl) (fun g24 e24 hI hX => ?_)
            refine ev_loc f_X12_gives (nx := 6) rfl rfl rfl rfl ?_
            refine ev_retK1 f_X12_gives rfl rfl rfl ?_
            exact ev_ret f_X12_slack rfl rfl rfl ⟨_, _, _, rfl, hI, hX, ⟨_, rfl, (Int.le_trans (by decide : ((-1):Int) ≤ 0) l21_3), u21_3, (show ∀ D : s_D, t_ME 0 gi D → t_Cb D → s_DB D → (gi 69 46).toInt = -1 → ((0 ≤ ar1.toInt ∧ ar1.toInt < D 1 ∧ (s_LS (s_PD D (D 4)) 0 0 0 0) < 1000000000) → y21_3.toInt = ((s_lg (s_sf D ar1.toInt) (s_LS (s_PD D (D 4)) 0 0 0 0) 60 : Nat) : Int)) ∧ (¬ (0 ≤ ar1.toInt ∧ ar1.toInt < D 1 ∧ (s_LS (s_PD D (D 4)) 0 0 0 0) < 1000000000) → y21_3.toInt = -1) from (by
                                                            intro D hm hb hd h46
                                                            have ha : (gi 70 1).toInt = D 1 := hm.1.1.2.1
                                                            obtain ⟨g2, g3, g4, g5, g6⟩ := j21_0 D hm hb hd h46
                                                            have c1 := t_clamp (i := y21_4) (by omega)
                                                            rw [show y21_4.toNatClampNeg - 1 = 60 from (by omega)] at g3
                                                            exact ⟨fun _ => g3, fun h => absurd (show _ from ⟨g4, g5, g6⟩) h⟩))⟩⟩
          · have u25 : y21_4.toInt ≤ 60 := t_leu (t_nlt h22) (by decide : (60:Int32).toInt ≤ (60:Int))
            refine ev_loc f_X12_slack (nx := 51) rfl rfl rfl rfl ?_
            refine ev_loc f_X12_slack (nx := 52) rfl rfl rfl rfl ?_
            refine ev_loc f_X12_slack (nx := 54) rfl rfl rfl rfl ?_
            refine ev_qI f_X12_slack (nx := 57) (r := []) rfl rfl rfl rfl rfl rfl rfl (c_n_laterBy hI (ar1) l6 u12 (y21_4) (Int.le_trans (by decide : (0:Int) ≤ 1) l21_4) u25 (by
                                                            rw [t_F_nc (t_F_X hXh) rfl (by decide)]
                                                            exact e_p0)) rfl hX rfl (fun w26 gi26 gl26 gr26 l26 u26 hI hX hC26 q26 => ?_)
            have ff27 : (gi21 69 46).toInt = (gi 69 46).toInt := congrArg Int32.toInt c21_0
            have q26 : ∀ D : s_D, t_ME 0 gi21 D → t_Cb D → s_DB D → (gi21 69 46).toInt = -1 → ar1.toInt < D 1 → w26.toInt = s_an (s_LS (s_PX D (D 4) (s_Al (s_A D) ar1.toInt y21_4.toInt) 0 (-1)) 0 0 0 0) := q26
            refine ev_loc f_X12_slack (nx := 59) (lo' := [(5, .int w26), (4, .int y21_4), (3, .int y21_3), (2, .int w15), (0, .ref 69), (1, .int ar1)]) rfl rfl rfl rfl ?_
            refine ev_loc f_X12_slack (nx := 61) rfl rfl rfl rfl ?_
            refine ev_ic f_X12_slack (nx := 62) (v := -1) rfl (by decide) rfl ?_
            refine ev_if f_X12_slack (t1 := 74) (t2 := 65) rfl rfl rfl (fun h28 => ?_) (fun h28 => ?_)
            · have u29 : w26.toInt ≤ (-1) := t_equ h28 (by decide : ((-1):Int32).toInt ≤ ((-1):Int))
              have l30 : (-1) ≤ w26.toInt := t_eql h28 (by decide : ((-1):Int) ≤ ((-1):Int32).toInt)
              refine ev_incR f_X12_slack (nx := 77) (c := 1) (l := 2) (u := 61) rfl rfl (by decide) (by decide) l21_4 u25 rfl rfl (by decide) (by decide) rfl (fun z31 e31 l31 u31 => ?_)
              refine ev_jmp f_X12_slack (nx := 43) rfl rfl rfl ?_
              refine ev_sub (lo := [(4, .int z31), (3, .int y21_3), (2, .int w15), (0, .ref 69), (1, .int ar1)]) rfl (t_sc rfl (t_sc rfl (t_sc rfl (t_sc rfl (t_sc rfl t_sn))))) ?_
              exact ih21 _ (by omega) gi26 gl26 gr26 (z31) (y21_3) hI hX  (Int.le_trans (by decide : (1:Int) ≤ 2) l31) u31 l21_3 u21_3 ((hC26.1 69 46 rfl).1.trans c21_0) ((hC26.1 70 1 rfl).1.trans c21_1) ((hC26.1 70 4 rfl).1.trans c21_2) (by
                                                            intro D hm hb hd h46
                                                            have ha : (gi 70 1).toInt = D 1 := hm.1.1.2.1
                                                            obtain ⟨g2, g3, g4, g5, g6⟩ := j21_0 D hm hb hd h46
                                                            have fh := t_F_X hXh
                                                            have hmn : t_ME 0 gi21 D := hm.mv hb (fun j _ _ _ => congrFun (t_F_nc fh rfl (by decide)) (0 + j))
                                                            have k46 : (gi21 69 46).toInt = -1 := by rw [(fh 69 46 (by decide) rfl).1]; exact h46
                                                            have hq := q26 D hmn hb hd k46 (by omega)
                                                            have c1 := t_clamp (i := y21_4) (by omega)
                                                            rw [← c1] at hq
                                                            have hlo := s_sf_lo hb hd (s := ar1.toInt) (l := y21_4.toNatClampNeg) (by omega)
                                                            have hle := s_an_le hlo g6
                                                            have hq2 : w26.toInt = s_an (s_sf D ar1.toInt y21_4.toNatClampNeg) := hq
                                                            rw [← hq2] at hle
                                                            have hn : ¬ s_sf D ar1.toInt y21_4.toNatClampNeg ≤ s_LS (s_PD D (D 4)) 0 0 0 0 := fun h => absurd (hle.mpr h) (by omega)
                                                            exact ⟨g2, s_lg_up g3 (by omega) (by omega) (Or.inr ⟨hn, rfl⟩), g4, g5, g6⟩) rfl
            · have r32 : w26.toInt ≠ (-1) := fun e => h28 (Int32.toInt_inj.mp (e.trans (by decide : ((-1):Int) = ((-1) : Int32).toInt)))
              refine ev_loc f_X12_slack (nx := 67) rfl rfl rfl rfl ?_
              refine ev_loc f_X12_slack (nx := 68) rfl rfl rfl rfl ?_
              refine ev_if f_X12_slack (t1 := 74) (t2 := 71) rfl rfl rfl (fun h33 => ?_) (fun h33 => ?_)
              · have r34 : w15.toInt < w26.toInt := Int32.lt_iff_toInt_lt.mp h33
                have u35 : w15.toInt ≤ 999999998 := t_ltu h33 u26 rfl
                have l36 : (-2147483647) ≤ w26.toInt := t_ltl h33 l15 rfl
                refine ev_incR f_X12_slack (nx := 77) (c := 1) (l := 2) (u := 61) rfl rfl (by decide) (by decide) l21_4 u25 rfl rfl (by decide) (by decide) rfl (fun z37 e37 l37 u37 => ?_)
                refine ev_jmp f_X12_slack (nx := 43) rfl rfl rfl ?_
                refine ev_sub (lo := [(4, .int z37), (3, .int y21_3), (2, .int w15), (0, .ref 69), (1, .int ar1)]) rfl (t_sc rfl (t_sc rfl (t_sc rfl (t_sc rfl (t_sc rfl t_sn))))) ?_
                exact ih21 _ (by omega) gi26 gl26 gr26 (z37) (y21_3) hI hX  (Int.le_trans (by decide : (1:Int) ≤ 2) l37) u37 l21_3 u21_3 ((hC26.1 69 46 rfl).1.trans c21_0) ((hC26.1 70 1 rfl).1.trans c21_1) ((hC26.1 70 4 rfl).1.trans c21_2) (by
                                                            intro D hm hb hd h46
                                                            have ha : (gi 70 1).toInt = D 1 := hm.1.1.2.1
                                                            obtain ⟨g2, g3, g4, g5, g6⟩ := j21_0 D hm hb hd h46
                                                            have fh := t_F_X hXh
                                                            have hmn : t_ME 0 gi21 D := hm.mv hb (fun j _ _ _ => congrFun (t_F_nc fh rfl (by decide)) (0 + j))
                                                            have k46 : (gi21 69 46).toInt = -1 := by rw [(fh 69 46 (by decide) rfl).1]; exact h46
                                                            have hq := q26 D hmn hb hd k46 (by omega)
                                                            have c1 := t_clamp (i := y21_4) (by omega)
                                                            rw [← c1] at hq
                                                            have hlo := s_sf_lo hb hd (s := ar1.toInt) (l := y21_4.toNatClampNeg) (by omega)
                                                            have hle := s_an_le hlo g6
                                                            have hq2 : w26.toInt = s_an (s_sf D ar1.toInt y21_4.toNatClampNeg) := hq
                                                            rw [← hq2] at hle
                                                            have hn : ¬ s_sf D ar1.toInt y21_4.toNatClampNeg ≤ s_LS (s_PD D (D 4)) 0 0 0 0 := fun h => absurd (hle.mpr h) (by omega)
                                                            exact ⟨g2, s_lg_up g3 (by omega) (by omega) (Or.inr ⟨hn, rfl⟩), g4, g5, g6⟩) rfl
              · have r38 : w26.toInt ≤ w15.toInt := Int32.le_iff_toInt_le.mp (t_nlt h33)
                refine ev_loc f_X12_slack (nx := 73) rfl rfl rfl rfl ?_
                refine ev_loc f_X12_slack (nx := 74) (lo' := [(3, .int y21_4), (5, .int w26), (4, .int y21_4), (2, .int w15), (0, .ref 69), (1, .int ar1)]) rfl rfl rfl rfl ?_
                refine ev_incR f_X12_slack (nx := 77) (c := 1) (l := 2) (u := 61) rfl rfl (by decide) (by decide) l21_4 u25 rfl rfl (by decide) (by decide) rfl (fun z39 e39 l39 u39 => ?_)
                refine ev_jmp f_X12_slack (nx := 43) rfl rfl rfl ?_
                refine ev_sub (lo := [(4, .int z39), (3, .int y21_4), (2, .int w15), (0, .ref 69), (1, .int ar1)]) rfl (t_sc rfl (t_sc rfl (t_sc rfl (t_sc rfl (t_sc rfl t_sn))))) ?_
                exact ih21 _ (by omega) gi26 gl26 gr26 (z39) (y21_4) hI hX  (Int.le_trans (by decide : (1:Int) ≤ 2) l39) u39 (Int.le_trans (by decide : (0:Int) ≤ 1) l21_4) u25 ((hC26.1 69 46 rfl).1.trans c21_0) ((hC26.1 70 1 rfl).1.trans c21_1) ((hC26.1 70 4 rfl).1.trans c21_2) (by
                                                            intro D hm hb hd h46
                                                            have ha : (gi 70 1).toInt = D 1 := hm.1.1.2.1
                                                            obtain ⟨g2, g3, g4, g5, g6⟩ := j21_0 D hm hb hd h46
                                                            have fh := t_F_X hXh
                                                            have hmn : t_ME 0 gi21 D := hm.mv hb (fun j _ _ _ => congrFun (t_F_nc fh rfl (by decide)) (0 + j))
                                                            have k46 : (gi21 69 46).toInt = -1 := by rw [(fh 69 46 (by decide) rfl).1]; exact h46
                                                            have hq := q26 D hmn hb hd k46 (by omega)
                                                            have c1 := t_clamp (i := y21_4) (by omega)
                                                            rw [← c1] at hq
                                                            have hlo := s_sf_lo hb hd (s := ar1.toInt) (l := y21_4.toNatClampNeg) (by omega)
                                                            have hle := s_an_le hlo g6
                                                            have hq2 : w26.toInt = s_an (s_sf D ar1.toInt y21_4.toNatClampNeg) := hq
                                                            rw [← hq2] at hle
                                                            have hy := hle.mp ⟨by omega, by omega⟩
                                                            exact ⟨g2, s_lg_up g3 (by omega) (by omega) (Or.inl ⟨hy, rfl⟩), g4, g5, g6⟩) rfl
        refine ev_sub (lo := [(4, .int 1), (3, .int 0), (2, .int w15), (0, .ref 69), (1, .int ar1)]) rfl (t_sc rfl (t_sc rfl (t_sc rfl (t_sc rfl (t_sc rfl t_sn))))) ?_
        exact L21 _ gi15 gl15 gr15 (1) (0) hI hX  (by decide : (1:Int) ≤ (1:Int32).toInt) (Int.le_trans (by decide : (1:Int32).toInt ≤ (1:Int)) (by decide : (1:Int) ≤ 61)) (by decide : (0:Int) ≤ (0:Int32).toInt) (Int.le_trans (by decide : (0:Int32).toInt ≤ (0:Int)) (by decide : (0:Int) ≤ 60)) ((hC15.1 69 46 rfl).1.trans rfl) ((hC15.1 70 1 rfl).1.trans rfl) ((hC15.1 70 4 rfl).1.trans rfl) (by
                                                            intro D hm hb hd h46
                                                            have ha : (gi 70 1).toInt = D 1 := hm.1.1.2.1
                                                            have hq := q15 D hm hb hd h46
                                                            have h4 : (gi 70 4).toInt = D 4 := hm.1.2.1
                                                            rw [h4] at hq
                                                            have hl0 := s_LS_lo (s_PD_O (q := D 4) hb hd hd.2.2.1.1) 0 0 0 0
                                                            have hlt : s_LS (s_PD D (D 4)) 0 0 0 0 < 1000000000 := by
                                                              by_cases hh : 1000000000 ≤ s_LS (s_PD D (D 4)) 0 0 0 0
                                                              · have hn := (s_an_n hl0).mpr hh; omega
                                                              · exact Int.not_le.mp hh
                                                            rw [s_an_v hlt] at hq
                                                            exact ⟨hq, rfl, by omega, by omega, hlt⟩) rfl
/-! ===== slack: the answers are alike ===== -/
section SLKL
variable {sh : List (Nat ⊕ (Nat × Nat))} {gi g1 g2 : Nat → Nat → Int32} {gl l1 l2 : Nat → Nat → Int64} {gr r1 r2 : Nat → Nat → Value} {w1 : List (Nat × Nat)} {A : Int32} {x1 x2 : Int32}
theorem t_L_slack (hI : t_I sh gi gr) (hD : t_DR sh.length gi gl gr) (f1 : t_F w1 gi gl gr g1 l1 r1) (h70 : t_nc w1 70 = true) (hN1 : (g1 69 46).toInt = -1) (h4 : 1 ≤ (g1 70 4).toInt) (q1 : Q_d_slack gi gl gr A x1 g1 l1 r1) (q2 : Q_e_slack g1 l1 r1 A x2 g2 l2 r2) : x1 = x2 := by
  obtain ⟨u, hu, D, hb, hv, hl, hc, hm⟩ := hD.1
  have r70 : g1 70 = gi 70 := t_F_nc f1 h70 (by decide)
  have hm2 : t_ME 0 g1 D := by unfold t_ME; rw [r70]; exact hm
  have hd : s_DB D := s_DB_of hI hm hb (by rw [← r70]; exact h4)
  have k1 := q1 u D hu hl hc hb hv.1 (t_D_sail hI hb hm) hd
  have k2 := q2 D hm2 hb hd hN1
  apply Int32.toInt_inj.mp
  by_cases hin : 0 ≤ A.toInt ∧ A.toInt < D 1 ∧ s_LS (s_PD D (D 4)) 0 0 0 0 < 1000000000
  · rw [k1.1 hin, k2.1 hin]
  · rw [k1.2 hin, k2.2 hin]
end SLKL
/-! ===== rows of numbers, one after another ===== -/
noncomputable abbrev s_RL : Type := List (Int × Int × Int)
noncomputable def s_RI (S : s_RL → Prop) (R T : s_RL) : Prop := ∃ L, S L ∧ L ++ R = T
section RLS
variable {S S2 : s_RL → Prop} {R R2 T : s_RL} {t : Int × Int × Int}
theorem s_RI.cg (h : s_RI S R T) (e : R = R2) : s_RI S R2 T := e ▸ h
theorem s_RI.mono (h : s_RI S R T) (e : ∀ L, S L → S2 L) : s_RI S2 R T := by
  obtain ⟨L, h1, h2⟩ := h
  exact ⟨L, e L h1, h2⟩
theorem s_RI.add (h : s_RI S R T) (e : R = t :: R2) (ea : ∀ L, S L → S2 (L ++ [t])) : s_RI S2 R2 T := by
  obtain ⟨L, h1, h2⟩ := h
  refine ⟨L ++ [t], ea L h1, ?_⟩
  rw [← h2, e, List.append_assoc]; rfl
theorem s_RI.nil (h : S []) (e : R = T) : s_RI S R T := ⟨[], h, e⟩
theorem s_RI.fin (h : s_RI S R T) (e : R = []) : S T := by
  obtain ⟨L, h1, h2⟩ := h
  rw [e, List.append_nil] at h2; exact h2 ▸ h1
theorem s_ap_get {L : s_RL} {t t' : Int × Int × Int} {k : Nat} (h : (L ++ [t])[k]? = some t') : (k < L.length ∧ L[k]? = some t') ∨ (k = L.length ∧ t' = t) := by
  by_cases hk : k < L.length
  · rw [List.getElem?_append_left hk] at h; exact Or.inl ⟨hk, h⟩
  · rw [List.getElem?_append_right (by omega)] at h
    by_cases hk2 : k = L.length
    · rw [show k - L.length = 0 by omega] at h
      exact Or.inr ⟨hk2, (Option.some.inj h).symm⟩
    · rw [show k - L.length = (k - L.length - 1) + 1 by omega] at h
      exact absurd h (by intro h2; cases h2)
end RLS
/-! ===== the PLAN: what is done, minute by minute ===== -/
/-- the next SHIP begins; the next CART begins -/
noncomputable def s_yS (P : Nat → Nat → Int) (m : Int) (o s c : Nat) : Prop := o = 1 ∧ (s : Int) < P 0 0 ∧ m ≤ 240 ∧ P 1 s ≤ m ∧ (P 4 s = 0 ∨ m = P 1 s) ∧ (m - P 1 s) * P 3 s + s_LS P (m + P 2 s) 1 (s + 1) c = s_LS P m o s c
noncomputable def s_yC (P : Nat → Nat → Int) (m : Int) (o s c : Nat) : Prop := o = 0 ∧ (c : Int) < P 0 1 ∧ m ≤ 240 ∧ P 5 c ≤ m ∧ (m - P 5 c) * P 7 c + s_LS P (m + P 6 c) 0 s (c + 1) = s_LS P m o s c
noncomputable def s_gn (P : Nat → Nat → Int) (s c : Nat) : Prop := P 0 0 ≤ (s : Int) ∧ P 0 1 ≤ (c : Int)
/-- W 0, W 1: the numbers of SHIPS, of CARTS, by the order -/
noncomputable def s_pl (P W : Nat → Nat → Int) : Nat → Int → Nat → Nat → Nat → s_RL
  | 0, _, _, _, _ => []
  | n + 1, m, o, s, c => s_if (s_gn P s c) [] (s_if (s_yS P m o s c) ((0, m, W 0 s) :: s_pl P W n (m + P 2 s) 1 (s + 1) c) (s_if (s_yC P m o s c) ((1, m, W 1 c) :: s_pl P W n (m + P 6 c) 0 s (c + 1)) (s_if (s_LS P (m + 1) o s c = s_LS P m o s c) (s_pl P W n (m + 1) o s c) ((2, m, -1) :: s_pl P W n (m + P 8 m.toNat) (1 - o) s c))))
/-- how many acts so far -/
noncomputable def s_tn (P : Nat → Nat → Int) (m : Int) (o s c n : Nat) : Prop := n ≤ 2 * (s + c) ∨ (n ≤ 2 * (s + c) + 1 ∧ ∃ m0 : Int, 0 ≤ m0 ∧ m0 < m ∧ s_LS P m o s c < s_LS P (m0 + 1) (1 - o) s c)
/-- all takes a minute at least -/
noncomputable def s_T1 (P : Nat → Nat → Int) : Prop := (∀ s : Nat, (s : Int) < P 0 0 → 1 ≤ P 2 s) ∧ ∀ c : Nat, (c : Int) < P 0 1 → 1 ≤ P 6 c
section PLN
variable {P W : Nat → Nat → Int} {m b : Int} {o s c k n : Nat} {S S' : s_RL → Prop}
theorem s_LS_e (hd : ¬ s_gn P s c) : ∃ k, ((P 0 0).toNat - s) + ((P 0 1).toNat - c) = k + 1 ∧ ∀ (m : Int) (o : Nat), s_LS P m o s c = min (s_oS P (s_ls P k) (s_bS P m o s) s c) (s_oC P (s_ls P k) (s_bC P m o c) s c) := by
  obtain ⟨k, hk⟩ := s_rem1 hd
  refine ⟨k, hk, fun m o => ?_⟩
  unfold s_LS
  rw [hk]
  exact if_neg hd
/-- what is the least by a SHIP that begins in b, by a CART -/
theorem s_oS_is {k : Nat} (hk : ((P 0 0).toNat - s) + ((P 0 1).toNat - c) = k + 1) (h : s_oS P (s_ls P k) b s c < 1000000000) : (s : Int) < P 0 0 ∧ b ≤ 240 ∧ (P 4 s = 0 ∨ b = P 1 s) ∧ s_oS P (s_ls P k) b s c = (b - P 1 s) * P 3 s + s_LS P (b + P 2 s) 1 (s + 1) c := by
  unfold s_oS at h ⊢
  by_cases hc : (s : Int) < P 0 0 ∧ b ≤ 240 ∧ (P 4 s = 0 ∨ b = P 1 s)
  · rw [if_pos hc] at h ⊢
    refine ⟨hc.1, hc.2.1, hc.2.2, ?_⟩
    rw [s_LS_k (k := k) (s_rem2 hk hc.1)]
    omega
  · rw [if_neg hc] at h; omega
theorem s_oC_is {k : Nat} (hk : ((P 0 0).toNat - s) + ((P 0 1).toNat - c) = k + 1) (h : s_oC P (s_ls P k) b s c < 1000000000) : (c : Int) < P 0 1 ∧ b ≤ 240 ∧ s_oC P (s_ls P k) b s c = (b - P 5 c) * P 7 c + s_LS P (b + P 6 c) 0 s (c + 1) := by
  unfold s_oC at h ⊢
  by_cases hc : (c : Int) < P 0 1 ∧ b ≤ 240
  · rw [if_pos hc] at h ⊢
    refine ⟨hc.1, hc.2, ?_⟩
    rw [s_LS_k (k := k) (s_rem3 hk hc.1)]
    omega
  · rw [if_neg hc] at h; omega
theorem s_LS_mono (hO : s_PO P) {m' : Int} (h0 : 0 ≤ m) (hm : m ≤ m') : s_LS P m o s c ≤ s_LS P m' o s c := s_ls_mono hO _ _ _ _ _ _ h0 hm
/-- nobody can begin behind minute 240 -/
theorem s_LS_far (hO : s_PO P) (hd : ¬ s_gn P s c) (h0 : 0 ≤ m) (h : s_LS P m o s c < 1000000000) : m ≤ 240 := by
  obtain ⟨k, hk, e⟩ := s_LS_e hd
  rw [e] at h
  by_cases h1 : s_oS P (s_ls P k) (s_bS P m o s) s c < 1000000000
  · have h2 := (s_oS_is hk h1).2.1
    have h3 := s_bS_m (o := o) (s := s) hO h0
    omega
  · have h2 := (s_oC_is (b := s_bC P m o c) hk (by omega)).2.1
    have h3 := s_bC_m (o := o) (c := c) hO h0
    omega
/-- neither a beginning nor a rest will do: a turn does -/
theorem s_LS_turn (hO : s_PO P) (hd : ¬ s_gn P s c) (h0 : 0 ≤ m) (ho : o ≤ 1) (h : s_LS P m o s c < 1000000000) (hS : ¬ s_yS P m o s c) (hC : ¬ s_yC P m o s c) (hr : ¬ s_LS P (m + 1) o s c = s_LS P m o s c) : s_LS P (m + P 8 m.toNat) (1 - o) s c = s_LS P m o s c ∧ s_LS P m o s c < s_LS P (m + 1) o s c := by
  obtain ⟨k, hk, e⟩ := s_LS_e hd
  have hmo := s_LS_mono (o := o) (s := s) (c := c) hO h0 (show m ≤ m + 1 by omega)
  have ht : s_LS P m o s c ≤ s_LS P (m + P 8 m.toNat) (1 - o) s c := s_ls_turn hO h0 ho
  refine ⟨?_, by omega⟩
  have e1 := e m o
  have e2 := e (m + 1) o
  have e3 := e (m + P 8 m.toNat) (1 - o)
  by_cases h1 : s_oS P (s_ls P k) (s_bS P m o s) s c = s_LS P m o s c
  · obtain ⟨g1, g2, g3, g4⟩ := s_oS_is hk (h1 ▸ h)
    rcases (show o = 0 ∨ o = 1 by omega) with rfl | rfl
    · have hb : s_bS P (m + P 8 m.toNat) (1 - 0) s = s_bS P m 0 s := by
        unfold s_bS; rw [if_pos (by omega), if_neg (by omega)]
      rw [hb] at e3; omega
    · have hb : s_bS P m 1 s = max (P 1 s) m := by unfold s_bS; rw [if_pos rfl]
      by_cases hm : P 1 s ≤ m
      · exact absurd ⟨rfl, g1, by omega, hm, g3.elim Or.inl (fun q => Or.inr (by omega)), by rw [show s_bS P m 1 s = m by omega] at g4 h1; omega⟩ hS
      · have hb2 : s_bS P (m + 1) 1 s = s_bS P m 1 s := by rw [hb]; unfold s_bS; rw [if_pos rfl]; omega
        rw [hb2] at e2; omega
  · have h2 : s_oC P (s_ls P k) (s_bC P m o c) s c = s_LS P m o s c := by omega
    obtain ⟨g1, g2, g4⟩ := s_oC_is hk (h2 ▸ h)
    rcases (show o = 0 ∨ o = 1 by omega) with rfl | rfl
    · have hb : s_bC P m 0 c = max (P 5 c) m := by unfold s_bC; rw [if_neg (by omega)]
      by_cases hm : P 5 c ≤ m
      · exact absurd ⟨rfl, g1, by omega, hm, by rw [show s_bC P m 0 c = m by omega] at g4 h2; omega⟩ hC
      · have hb2 : s_bC P (m + 1) 0 c = s_bC P m 0 c := by rw [hb]; unfold s_bC; rw [if_neg (by omega)]; omega
        rw [hb2] at e2; omega
    · have hb : s_bC P (m + P 8 m.toNat) (1 - 1) c = s_bC P m 1 c := by
        unfold s_bC; rw [if_neg (by omega), if_pos rfl]
      rw [hb] at e3; omega
theorem s_pl_dn (hd : s_gn P s c) (n : Nat) : s_pl P W n m o s c = [] := by
  cases n with
  | zero => rfl
  | succ n => show s_if (s_gn P s c) _ _ = _; rw [s_ifT hd]
/-- the rows of all, and where one stands -/
noncomputable def s_PI (P W : Nat → Nat → Int) (S : s_RL → Prop) (k : Nat) (m : Int) (o s c : Nat) : Prop := ((0 ≤ m ∧ o ≤ 1) ∧ ((s : Int) ≤ P 0 0 ∧ (c : Int) ≤ P 0 1) ∧ (k : Int) ≤ m ∧ s_LS P m o s c < 1000000000) ∧ ∃ L, S L ∧ L ++ s_pl P W (241 - k) m o s c = s_pl P W 241 0 0 0 0 ∧ s_tn P m o s c L.length
theorem s_PI_0 (hb : s_PB P) (h : s_LS P 0 0 0 0 < 1000000000) (h0 : S []) : s_PI P W S 0 0 0 0 0 :=
  ⟨⟨⟨by decide, by decide⟩, ⟨hb.1.1, hb.1.2.2.1⟩, by decide, h⟩, [], h0, rfl, Or.inl (Nat.zero_le _)⟩
theorem s_PI_n (h : s_PI P W S k m o s c) (hO : s_PO P) (hd : ¬ s_gn P s c) : m ≤ 240 ∧ k ≤ 240 ∧ ∃ n, 241 - k = n + 1 ∧ 241 - (k + 1) = n := by
  obtain ⟨⟨⟨h0, ho⟩, hsc, hk, hl⟩, -⟩ := h
  have hm := s_LS_far hO hd h0 hl
  exact ⟨hm, by omega, 240 - k, by omega, by omega⟩
/-- the next SHIP begins -/
theorem s_PI_S (h : s_PI P W S k m o s c) (hO : s_PO P) (h1 : s_T1 P) (hd : ¬ s_gn P s c) (hb : s_PB P) (hy : s_yS P m o s c) (ha : ∀ L : s_RL, S L → L.length < 24 → S' (L ++ [(0, m, W 0 s)])) : s_PI P W S' (k + 1) (m + P 2 s) 1 (s + 1) c := by
  obtain ⟨hm, hk2, n, e1, e2⟩ := s_PI_n h hO hd
  obtain ⟨⟨⟨h0, ho⟩, hsc, hk, hl⟩, L, hL, hA, hn⟩ := h
  obtain ⟨y1, y2, y3, y4, y5, y6⟩ := hy
  have ht := h1.1 s y2
  have hw := Int.mul_nonneg (a := m - P 1 s) (b := P 3 s) (by omega) (hO.1 s y2).2.2
  have hn2 : L.length ≤ 2 * (s + c) + 1 := by rcases hn with h | ⟨h, -⟩ <;> omega
  have hb1 := hb.1
  refine ⟨⟨⟨by omega, by decide⟩, ⟨by omega, hsc.2⟩, by omega, by omega⟩, L ++ [(0, m, W 0 s)], ha L hL (by omega), ?_, Or.inl (by rw [List.length_append]; show L.length + 1 ≤ _; omega)⟩
  rw [← hA, e1, e2, List.append_assoc]
  congr 1
  show _ = s_if (s_gn P s c) _ _
  rw [s_ifF hd, s_ifT ⟨y1, y2, y3, y4, y5, y6⟩]; rfl
theorem s_PI_C (h : s_PI P W S k m o s c) (hO : s_PO P) (h1 : s_T1 P) (hd : ¬ s_gn P s c) (hb : s_PB P) (hy : s_yC P m o s c) (ha : ∀ L : s_RL, S L → L.length < 24 → S' (L ++ [(1, m, W 1 c)])) : s_PI P W S' (k + 1) (m + P 6 c) 0 s (c + 1) := by
  obtain ⟨hm, hk2, n, e1, e2⟩ := s_PI_n h hO hd
  obtain ⟨⟨⟨h0, ho⟩, hsc, hk, hl⟩, L, hL, hA, hn⟩ := h
  obtain ⟨y1, y2, y3, y4, y6⟩ := hy
  have ht := h1.2 c y2
  have hw := Int.mul_nonneg (a := m - P 5 c) (b := P 7 c) (by omega) (hO.2.1 c y2).2.2
  have hn2 : L.length ≤ 2 * (s + c) + 1 := by rcases hn with h | ⟨h, -⟩ <;> omega
  have hb1 := hb.1
  have hnS : ¬ s_yS P m o s c := fun hh => by have := hh.1; omega
  refine ⟨⟨⟨by omega, by decide⟩, ⟨hsc.1, by omega⟩, by omega, by omega⟩, L ++ [(1, m, W 1 c)], ha L hL (by omega), ?_, Or.inl (by rw [List.length_append]; show L.length + 1 ≤ _; omega)⟩
  rw [← hA, e1, e2, List.append_assoc]
  congr 1
  show _ = s_if (s_gn P s c) _ _
  rw [s_ifF hd, s_ifF hnS, s_ifT ⟨y1, y2, y3, y4, y6⟩]; rfl
/-- it rests -/
theorem s_PI_R (h : s_PI P W S k m o s c) (hO : s_PO P) (hd : ¬ s_gn P s c) (hS : ¬ s_yS P m o s c) (hC : ¬ s_yC P m o s c) (hr : s_LS P (m + 1) o s c = s_LS P m o s c) : s_PI P W S (k + 1) (m + 1) o s c := by
  obtain ⟨hm, hk2, n, e1, e2⟩ := s_PI_n h hO hd
  obtain ⟨⟨⟨h0, ho⟩, hsc, hk, hl⟩, L, hL, hA, hn⟩ := h
  refine ⟨⟨⟨by omega, ho⟩, hsc, by omega, by omega⟩, L, hL, ?_, ?_⟩
  · rw [← hA, e1, e2]
    congr 1
    show _ = s_if (s_gn P s c) _ _
    rw [s_ifF hd, s_ifF hS, s_ifF hC, s_ifT hr]
  · rcases hn with h | ⟨h, m0, g1, g2, g3⟩
    · exact Or.inl h
    · exact Or.inr ⟨h, m0, g1, by omega, by omega⟩
/-- it turns -/
theorem s_PI_T (h : s_PI P W S k m o s c) (hO : s_PO P) (hd : ¬ s_gn P s c) (hb : s_PB P) (hS : ¬ s_yS P m o s c) (hC : ¬ s_yC P m o s c) (hr : ¬ s_LS P (m + 1) o s c = s_LS P m o s c) (ha : ∀ L : s_RL, S L → L.length < 24 → S' (L ++ [(2, m, -1)])) : s_PI P W S' (k + 1) (m + P 8 m.toNat) (1 - o) s c := by
  obtain ⟨hm, hk2, n, e1, e2⟩ := s_PI_n h hO hd
  obtain ⟨⟨⟨h0, ho⟩, hsc, hk, hl⟩, L, hL, hA, hn⟩ := h
  obtain ⟨t1, t2⟩ := s_LS_turn hO hd h0 ho hl hS hC hr
  have ht := (hO.2.2 m.toNat).1
  have hn2 : L.length ≤ 2 * (s + c) := by
    rcases hn with h | ⟨h, m0, g1, g2, g3⟩
    · exact h
    · have h9 := s_LS_mono (o := 1 - o) (s := s) (c := c) hO (show 0 ≤ m0 + 1 by omega) (show m0 + 1 ≤ m + P 8 m.toNat by omega)
      omega
  have hb1 := hb.1
  have hsc2 : (s : Int) < P 0 0 ∨ (c : Int) < P 0 1 := by
    rcases Int.lt_or_le (s : Int) (P 0 0) with h | h
    · exact Or.inl h
    · rcases Int.lt_or_le (c : Int) (P 0 1) with h2 | h2
      · exact Or.inr h2
      · exact absurd ⟨h, h2⟩ hd
  refine ⟨⟨⟨by omega, by omega⟩, hsc, by omega, by omega⟩, L ++ [(2, m, -1)], ha L hL (by omega), ?_, Or.inr ⟨by rw [List.length_append]; show L.length + 1 ≤ _; omega, m, h0, by omega, ?_⟩⟩
  · rw [← hA, e1, e2, List.append_assoc]
    congr 1
    show _ = s_if (s_gn P s c) _ _
    rw [s_ifF hd, s_ifF hS, s_ifF hC, s_ifF hr]; rfl
  · rw [t1, show 1 - (1 - o) = o by omega]; exact t2
/-- all have gone -/
theorem s_PI_E (h : s_PI P W S k m o s c) (hd : s_gn P s c) : S (s_pl P W 241 0 0 0 0) := by
  obtain ⟨-, L, hL, hA, -⟩ := h
  rw [s_pl_dn hd, List.append_nil] at hA
  exact hA ▸ hL
theorem s_PI.mono (h : s_PI P W S k m o s c) (e : ∀ L, S L → S' L) : s_PI P W S' k m o s c := by
  obtain ⟨h1, L, h2, h3, h4⟩ := h
  exact ⟨h1, L, e L h2, h3, h4⟩
end PLN
/-! ===== all that passes takes a minute at least ===== -/
noncomputable def s_tk (D : s_D) : Prop := (∀ s : Nat, (s : Int) < D 1 → 1 ≤ D (54 + 5 * s)) ∧ ∀ c : Nat, (c : Int) < D 2 → 1 ≤ D (83 + 3 * c)
noncomputable def s_tb (D : s_D) : Prop := t_Cb D ∧ s_tk D
section TAK
variable {b : Nat → Int32} {n p : Nat} {D : s_D} {x lo hi : Int} {r r2 : s_R} {c : Prop}
theorem s_tb_if (h : c → s_tb r.2.2) (h2 : ¬ c → s_tb r2.2.2) : s_tb (s_if c r r2).2.2 := by
  by_cases hc : c
  · rw [s_ifT hc]; exact h hc
  · rw [s_ifF hc]; exact h2 hc
theorem s_tb_bad (h : s_tb D) : s_tb (s_bad b n p x D).2.2 := h
theorem s_tb_kw {i : Nat} {k : Nat → s_R} (h : s_tb D) (hk : ∀ q, s_tb (k q).2.2) : s_tb (s_kw b n p i D k).2.2 := s_tb_if (fun _ => hk _) (fun _ => h)
theorem s_tb_num {k : Nat → s_R} (h : s_tb D) (hk : ∀ q, lo ≤ s_V b n p → s_tb (k q).2.2) : s_tb (s_num b n p lo hi D k).2.2 := s_tb_if (fun _ => s_tb_if (fun hv => hk _ hv.2.1) (fun _ => h)) (fun _ => h)
theorem s_tb_name {k : Nat → s_R} (h : s_tb D) (hk : ∀ q, s_tb (k q).2.2) : s_tb (s_name b n p D k).2.2 := s_tb_if (fun _ => s_tb_if (fun _ => h) (fun _ => hk _)) (fun _ => h)
theorem s_tb_set {i : Nat} {v : Int} (h : s_tb D) (hi : (3 ≤ i ∧ i < 54) ∨ 200 ≤ i) : s_tb (s_set D i v) := by
  obtain ⟨⟨h0, h1, h2⟩, h3, h4⟩ := h
  have e : ∀ j, j ≠ i → s_set D i v j = D j := fun j hj => if_neg hj
  refine ⟨⟨by rw [e 0 (by omega)]; exact h0, by rw [e 1 (by omega)]; exact h1, by rw [e 2 (by omega)]; exact h2⟩, fun s hs => ?_, fun c hc => ?_⟩
  · rw [e 1 (by omega)] at hs
    rw [e _ (by omega)]; exact h3 s hs
  · rw [e 2 (by omega)] at hc
    rw [e _ (by omega)]; exact h4 c hc
theorem s_tb_P {nm bl : Int} (h : s_tb D) (h6 : ¬ D 0 = 6) : s_tb (s_addP D nm bl) := by
  obtain ⟨⟨h0, h1, h2⟩, h3, h4⟩ := h
  have e : ∀ j, j ≠ 0 → j ≠ 200 + (D 0).toNat → j ≠ 10 + (D 0).toNat → s_addP D nm bl j = D j := fun j a b c => by unfold s_addP; rw [if_neg a, if_neg b, if_neg c]
  have e0 : s_addP D nm bl 0 = D 0 + 1 := if_pos rfl
  refine ⟨⟨by rw [e0]; omega, by rw [e 1 (by omega) (by omega) (by omega)]; exact h1, by rw [e 2 (by omega) (by omega) (by omega)]; exact h2⟩, fun s hs => ?_, fun c hc => ?_⟩
  · rw [e 1 (by omega) (by omega) (by omega)] at hs
    rw [e _ (by omega) (by omega) (by omega)]; exact h3 s hs
  · rw [e 2 (by omega) (by omega) (by omega)] at hc
    rw [e _ (by omega) (by omega) (by omega)]; exact h4 c hc
theorem s_tb_S {nm po at_ ta co sa : Int} (h : s_tb D) (h6 : ¬ D 1 = 6) (ht : 1 ≤ ta) : s_tb (s_addS D nm po at_ ta co sa) := by
  obtain ⟨⟨h0, h1, h2⟩, h3, h4⟩ := h
  have e : ∀ j, j ≠ 1 → j ≠ 206 + (D 1).toNat → (j < 52 + 5 * (D 1).toNat ∨ 57 + 5 * (D 1).toNat ≤ j) → s_addS D nm po at_ ta co sa j = D j := fun j a b c => by
    unfold s_addS; rw [if_neg a, if_neg b, if_neg (by omega), if_neg (by omega), if_neg (by omega), if_neg (by omega), if_neg (by omega)]
  have e1 : s_addS D nm po at_ ta co sa 1 = D 1 + 1 := if_pos rfl
  have et : s_addS D nm po at_ ta co sa (54 + 5 * (D 1).toNat) = ta := by
    unfold s_addS; rw [if_neg (by omega), if_neg (by omega), if_neg (by omega), if_neg (by omega), if_pos rfl]
  refine ⟨⟨by rw [e 0 (by omega) (by omega) (by omega)]; exact h0, by rw [e1]; omega, by rw [e 2 (by omega) (by omega) (by omega)]; exact h2⟩, fun s hs => ?_, fun c hc => ?_⟩
  · rw [e1] at hs
    by_cases hk : s = (D 1).toNat
    · rw [hk, et]; exact ht
    · rw [e _ (by omega) (by omega) (by omega)]; exact h3 s (by omega)
  · rw [e 2 (by omega) (by omega) (by omega)] at hc
    rw [e _ (by omega) (by omega) (by omega)]; exact h4 c hc
theorem s_tb_C {nm at_ ta co : Int} (h : s_tb D) (h6 : ¬ D 2 = 6) (ht : 1 ≤ ta) : s_tb (s_addC D nm at_ ta co) := by
  obtain ⟨⟨h0, h1, h2⟩, h3, h4⟩ := h
  have e : ∀ j, j ≠ 2 → j ≠ 212 + (D 2).toNat → (j < 82 + 3 * (D 2).toNat ∨ 85 + 3 * (D 2).toNat ≤ j) → s_addC D nm at_ ta co j = D j := fun j a b c => by
    unfold s_addC; rw [if_neg a, if_neg b, if_neg (by omega), if_neg (by omega), if_neg (by omega)]
  have e2 : s_addC D nm at_ ta co 2 = D 2 + 1 := if_pos rfl
  have et : s_addC D nm at_ ta co (83 + 3 * (D 2).toNat) = ta := by
    unfold s_addC; rw [if_neg (by omega), if_neg (by omega), if_neg (by omega), if_pos rfl]
  refine ⟨⟨by rw [e 0 (by omega) (by omega) (by omega)]; exact h0, by rw [e 1 (by omega) (by omega) (by omega)]; exact h1, by rw [e2]; omega⟩, fun s hs => ?_, fun c hc => ?_⟩
  · rw [e 1 (by omega) (by omega) (by omega)] at hs
    rw [e _ (by omega) (by omega) (by omega)]; exact h3 s hs
  · rw [e2] at hc
    by_cases hk : c = (D 2).toNat
    · rw [hk, et]; exact ht
    · rw [e _ (by omega) (by omega) (by omega)]; exact h4 c (by omega)
theorem s_tb_come {k : Nat → Int → Int → Int → s_R} (h : s_tb D) (hk : ∀ (q : Nat) (a t w : Int), 1 ≤ t → s_tb (k q a t w).2.2) : s_tb (s_come b n p D k).2.2 :=
  s_tb_kw h fun _ => s_tb_num h fun _ _ => s_tb_kw h fun _ => s_tb_num h fun _ ht => s_tb_kw h fun _ => s_tb_num h fun _ _ => hk _ _ _ _ ht
theorem s_tb_port (h : s_tb D) : s_tb (s_port b n p D).2.2 := s_tb_if (fun _ => h) fun h6 => s_tb_name h fun _ => s_tb_kw h fun _ => s_tb_if (fun _ => s_tb_if (fun _ => h) fun _ => s_tb_P h h6) fun _ => h
theorem s_tb_turns (h : s_tb D) : s_tb (s_turns b n p D).2.2 := s_tb_if (fun _ => s_tb_num h fun _ _ => s_tb_set (s_tb_set h (Or.inr (by decide))) (Or.inl (by decide))) fun _ => h
theorem s_tb_frost (h : s_tb D) : s_tb (s_frost b n p D).2.2 := s_tb_if (fun _ => s_tb_num h fun _ _ => s_tb_kw h fun _ => s_tb_num h fun _ _ => s_tb_set (s_tb_set (s_tb_set h (Or.inr (by decide))) (Or.inl (by decide))) (Or.inl (by decide))) fun _ => h
theorem s_tb_echo (h : s_tb D) : s_tb (s_echo b n p D).2.2 := s_tb_if (fun _ => s_tb_num h fun _ _ => s_tb_set (s_tb_set h (Or.inr (by decide))) (Or.inl (by decide))) fun _ => h
theorem s_tb_ship (h : s_tb D) : s_tb (s_ship b n p D).2.2 := s_tb_if (fun _ => h) fun h6 => s_tb_name h fun _ => s_tb_kw h fun _ => s_tb_if (fun _ => s_tb_if (fun _ => h) fun _ => s_tb_come h fun _ _ _ _ ht => s_tb_if (fun _ => s_tb_S h h6 ht) fun _ => s_tb_S h h6 ht) fun _ => h
theorem s_tb_cart (h : s_tb D) : s_tb (s_cart b n p D).2.2 := s_tb_if (fun _ => h) fun h6 => s_tb_name h fun _ => s_tb_come h fun _ _ _ _ ht => s_tb_C h h6 ht
theorem s_tb_part (h : s_tb D) : s_tb (s_part b n p D).2.2 := s_tb_if (fun _ => s_tb_port h) fun _ => s_tb_if (fun _ => s_tb_turns h) fun _ => s_tb_if (fun _ => s_tb_frost h) fun _ => s_tb_if (fun _ => s_tb_echo h) fun _ => s_tb_if (fun _ => s_tb_ship h) fun _ => s_tb_if (fun _ => s_tb_cart h) fun _ => h
theorem s_tb_semi (h : s_tb r.2.2) : s_tb (s_semi b n r).2.2 := s_tb_if (fun _ => s_tb_if (fun _ => h) fun _ => h) fun _ => h
theorem s_tb_rv : ∀ (m p : Nat) (D : s_D), s_tb D → s_tb (s_rv b n m p D).2.2
  | 0, _, _, h => h
  | m + 1, p, D, h => s_tb_if (fun _ => h) fun _ => s_tb_if (fun _ => s_tb_rv m _ _ (s_tb_semi (s_tb_part h))) fun _ => s_tb_semi (s_tb_part h)
theorem s_tb_0 : s_tb s_D0 := ⟨⟨⟨by decide, by decide⟩, ⟨by decide, by decide⟩, by decide, by decide⟩, fun s hs => absurd (show (s : Int) < 0 from hs) (by omega), fun c hc => absurd (show (c : Int) < 0 from hc) (by omega)⟩
end TAK
/-- as the other side keeps it: what is there, what is marked -/
noncomputable def t_tk (g : Nat → Nat → Int32) (o : Nat) : Prop := ((g 70 (o + 1)).toInt ≤ 6 ∧ (g 70 (o + 2)).toInt ≤ 6) ∧ (∀ s : Nat, (s : Int) < (g 70 (o + 1)).toInt → 1 ≤ (g 70 (o + (54 + 5 * s))).toInt) ∧ ∀ c : Nat, (c : Int) < (g 70 (o + 2)).toInt → 1 ≤ (g 70 (o + (83 + 3 * c))).toInt
noncomputable def t_KQ (g : Nat → Nat → Int32) : Prop := t_tk g 0 ∧ ∀ k : Nat, (k : Int) < (g 0 12).toInt → t_tk g (350 * (k + 1))
section KQ
variable {sh sh1 : List (Nat ⊕ (Nat × Nat))} {gi g1 g2 : Nat → Nat → Int32} {gl l1 l2 : Nat → Nat → Int64} {gr r1 r2 : Nat → Nat → Value} {w1 w2 : List (Nat × Nat)} {D : s_D} {A x1 x2 : Int32} {o o' : Nat}
theorem t_tk.mv (h : t_tk gi o) (e : ∀ j, j < 100 → j ≠ 3 → j ≠ 8 → g1 70 (o' + j) = gi 70 (o + j)) : t_tk g1 o' := by
  obtain ⟨⟨a, b⟩, h1, h2⟩ := h
  have e1 := e 1 (by decide) (by decide) (by decide)
  have e2 := e 2 (by decide) (by decide) (by decide)
  refine ⟨⟨by rw [e1]; exact a, by rw [e2]; exact b⟩, fun s hs => ?_, fun c hc => ?_⟩
  · rw [e1] at hs
    rw [e _ (by omega) (by omega) (by omega)]; exact h1 s hs
  · rw [e2] at hc
    rw [e _ (by omega) (by omega) (by omega)]; exact h2 c hc
theorem t_tk_of (hm : t_ME o gi D) (h : s_tb D) : t_tk gi o := by
  obtain ⟨⟨h0, h1, h2⟩, h3, h4⟩ := h
  have e1 : (gi 70 (o + 1)).toInt = D 1 := hm.1.1.2.1
  have e2 : (gi 70 (o + 2)).toInt = D 2 := hm.1.1.2.2
  refine ⟨⟨by omega, by omega⟩, fun s hs => ?_, fun c hc => ?_⟩
  · rw [hm.2.2.1 _ (by omega) (by omega)]; exact h3 s (by omega)
  · rw [hm.2.2.2 _ (by omega) (by omega)]; exact h4 c (by omega)
theorem t_tk_D (h : t_tk gi 0) (hm : t_ME 0 gi D) (hb : t_Cb D) : s_tk D := by
  have e1 : (gi 70 (0 + 1)).toInt = D 1 := hm.1.1.2.1
  have e2 : (gi 70 (0 + 2)).toInt = D 2 := hm.1.1.2.2
  refine ⟨fun s hs => ?_, fun c hc => ?_⟩
  · rw [← hm.2.2.1 _ (by omega) (by omega)]; exact h.2.1 s (by omega)
  · rw [← hm.2.2.2 _ (by omega) (by omega)]; exact h.2.2 c (by omega)
theorem t_KQ_gen (hK : t_KQ gi) (e12 : g2 0 12 = gi 0 12) (em : ∀ j, j < 1400 → j % 350 ≠ 3 → j % 350 ≠ 8 → j % 350 < 100 → g2 70 j = gi 70 j) (hm : (gi 0 12).toInt ≤ 3) : t_KQ g2 := by
  refine ⟨hK.1.mv (fun j a b c => em (0 + j) (by omega) (by omega) (by omega) (by omega)), fun k hk => ?_⟩
  rw [e12] at hk
  exact (hK.2 k hk).mv (fun j a b c => em _ (by omega) (by omega) (by omega) (by omega))
theorem t_KQ_same (hK : t_KQ gi) (x1 : t_X w1 sh gi gl gr g1 l1 r1) (x2 : t_X w2 sh g1 l1 r1 g2 l2 r2) (hw : t_dsB w1 w2 = true) (em : ∀ j, j < 1400 → g2 70 j = g1 70 j) (hm : (gi 0 12).toInt ≤ 3) : t_KQ g2 := by
  unfold t_dsB at hw
  simp only [Bool.and_eq_true] at hw
  obtain ⟨a1, a2, a3, a4, a5, a6, a7, a8, a9⟩ := hw
  have f1 := t_F_X x1
  have f2 := t_F_X x2
  refine t_KQ_gen hK ?_ (fun j hj _ _ _ => ?_) hm
  · rw [(f2 0 12 (by decide) (t_un_ok a6)).1, (f1 0 12 (by decide) (t_un_ok a5)).1]
  · rw [em j hj, t_F_nc f1 a9 (by decide)]
theorem t_KQ_rules (hK : t_KQ gi) (hm3 : (gi 0 12).toInt ≤ 3) (f1 : t_F w1 gi gl gr g1 l1 r1) (hw1 : (t_nc w1 70 && (t_nc w1 19 && t_un w1 (0, 12))) = true) (xm : t_X w2 sh1 g1 l1 r1 g2 l2 r2) (hw2 : (t_ndB w2 && (t_un w2 (0, 6) && (t_un w2 (0, 12) && t_nc w2 19))) = true) (em : ∀ j, j < 1400 → j % 350 ≠ 3 → j % 350 ≠ 8 → j % 350 < 100 → g2 70 j = g1 70 j) : t_KQ g2 := by
  simp only [Bool.and_eq_true] at hw1
  obtain ⟨n70, n19, n12⟩ := hw1
  obtain ⟨m0, m6, m12, m19⟩ := t_D_m xm hw2
  exact t_KQ_gen hK (m12.trans (f1 0 12 (by decide) (t_un_ok n12)).1) (fun j hj a b c => by rw [em j hj a b c, t_F_nc f1 n70 (by decide)]) hm3
theorem t_KQ_river (hK : t_KQ gi) (hT : t_TP gi) (hR : t_R gi gr) (hm3 : (gi 0 12).toInt ≤ 3) (f1 : t_F w1 gi gl gr g1 l1 r1) (hw1 : (t_nc w1 75 && (t_nc w1 70 && (t_nc w1 19 && t_un w1 (0, 12)))) = true) (h69 : t_in w1 69 10 = false) (xm : t_X w2 sh1 g1 l1 r1 g2 l2 r2) (hw2 : (t_ndB w2 && (t_un w2 (0, 6) && (t_un w2 (0, 12) && t_nc w2 19))) = true) (em : ∀ j, 350 ≤ j → j < 1400 → g2 70 j = g1 70 j) (q2 : Q_n_river g1 l1 r1 A x2 g2 l2 r2) : t_KQ g2 := by
  simp only [Bool.and_eq_true] at hw1
  obtain ⟨n75, n70, n19, n12⟩ := hw1
  have e0 : (gi 0 5).toInt = (gi 69 10).toInt := congrArg Int32.toInt (t_R_fed hR)
  have e1 : (g1 69 10).toInt = (gi 69 10).toInt := congrArg Int32.toInt (f1 69 10 (by decide) h69).1
  have r75 : g1 75 = gi 75 := t_F_nc f1 n75 (by decide)
  have r70 : g1 70 = gi 70 := t_F_nc f1 n70 (by decide)
  obtain ⟨m0, m6, m12, m19⟩ := t_D_m xm hw2
  have e12 : g2 0 12 = gi 0 12 := m12.trans (f1 0 12 (by decide) (t_un_ok n12)).1
  obtain ⟨k1, k2⟩ := q2
  have same : (∀ j : Nat, j < 350 → g2 70 j = g1 70 j) → t_KQ g2 := fun s70 => t_KQ_gen hK e12 (fun j hj _ _ _ => by
    by_cases hj3 : j < 350
    · rw [s70 j hj3, r70]
    · rw [em j (by omega) hj, r70]) hm3
  have rest : t_tk g2 0 → t_KQ g2 := fun h => ⟨h, fun k hk => by
    rw [e12] at hk
    exact (hK.2 k hk).mv (fun j a b c => by rw [em _ (by omega) (by omega), r70])⟩
  by_cases hin : 0 ≤ A.toInt ∧ A.toInt ≤ (gi 0 5).toInt
  · obtain ⟨n, hn⟩ : ∃ n : Nat, (n : Int) = A.toInt := ⟨A.toInt.toNat, by omega⟩
    have p2 := k1 (by omega) (gi 2) n hn (fun j hj => by rw [r75]; exact (hT j (by omega)).1.symm) (fun j hj => (hT j (by omega)).2)
    rcases p2 with ⟨q', D', b1, b2, b3, b4, b5, b6⟩ | ⟨p', x', D', b0, b1, b2, b3, b4, b5⟩
    · exact rest (t_tk_of b4.e (Eq.mp (congrArg (fun r : s_R => s_tb r.2.2) b1) (s_tb_rv _ _ _ s_tb_0)))
    · exact same b5
  · exact same (k2 (by omega)).2
theorem t_KQ_mark (hK : t_KQ gi) (hR : t_R gi gr) (hm0 : 0 ≤ (gi 0 12).toInt) (hm3 : (gi 0 12).toInt ≤ 3) (xh : t_X w1 sh gi gl gr g1 l1 r1) (hw1 : (t_ndB w1 && (t_un w1 (0, 6) && (t_nc w1 70 && t_un w1 (69, 75)))) = true) (xm : t_X w2 sh g1 l1 r1 g2 l2 r2) (hw2 : (t_ndB w2 && (t_un w2 (0, 6) && (t_un w2 (0, 12) && t_nc w2 19))) = true) (hc : ((gi 0 12).toInt = 3 → (g1 0 12).toInt = 3) ∧ ((gi 0 12).toInt ≠ 3 → (g1 0 12).toInt = (gi 0 12).toInt + 1)) (q2 : ((g1 69 75).toInt = 3 → g2 70 = g1 70) ∧ ((g1 69 75).toInt ≠ 3 → ∀ j, g2 70 j = t_cpy (g1 70) 0 ((g1 69 75).toInt.toNat + 1) 350 j)) : t_KQ g2 := by
  simp only [Bool.and_eq_true] at hw1
  obtain ⟨n0, n6, n70, n75⟩ := hw1
  have f1 := t_F_X xh
  have r70 : g1 70 = gi 70 := t_F_nc f1 n70 (by decide)
  have r75 : (g1 69 75).toInt = (gi 0 12).toInt := by rw [(f1 69 75 (by decide) (t_un_ok n75)).1, ← t_R_mk hR]
  obtain ⟨m0, m6, m12, m19⟩ := t_D_m xm hw2
  by_cases h3 : (gi 0 12).toInt = 3
  · have e70 : ∀ j, g2 70 j = gi 70 j := fun j => by rw [q2.1 (by omega), r70]
    refine ⟨hK.1.mv (fun j _ _ _ => e70 _), fun k hk => ?_⟩
    rw [m12] at hk
    exact (hK.2 k (by have := hc.1 h3; omega)).mv (fun j _ _ _ => e70 _)
  · have e70 : ∀ j, g2 70 j = t_cpy (gi 70) 0 ((gi 0 12).toInt.toNat + 1) 350 j := fun j => by rw [q2.2 (by omega), r70, r75]
    have ec := hc.2 h3
    have off : ∀ j, (j < 350 * ((gi 0 12).toInt.toNat + 1) ∨ 350 * ((gi 0 12).toInt.toNat + 1) + 350 ≤ j) → g2 70 j = gi 70 j := fun j hj => by
      rw [e70]; unfold t_cpy; rw [if_neg (by omega)]
    refine ⟨hK.1.mv (fun j _ _ _ => off _ (by omega)), fun k hk => ?_⟩
    rw [m12] at hk
    by_cases hkm : (k : Int) = (gi 0 12).toInt
    · refine hK.1.mv (fun j hj _ _ => ?_)
      rw [e70]; unfold t_cpy
      rw [if_pos (by omega), show 350 * (k + 1) + j - 350 * ((gi 0 12).toInt.toNat + 1) + 350 * 0 = 0 + j by omega]
    · exact (hK.2 k (by omega)).mv (fun j hj _ _ => off _ (by omega))
theorem t_KQ_back (hK : t_KQ gi) (hR : t_R gi gr) (hm0 : 0 ≤ (gi 0 12).toInt) (hm3 : (gi 0 12).toInt ≤ 3) (xh : t_X w1 sh gi gl gr g1 l1 r1) (hw1 : (t_ndB w1 && (t_nc w1 19 && (t_nc w1 70 && t_un w1 (69, 75)))) = true) (xm : t_X w2 sh g1 l1 r1 g2 l2 r2) (hw2 : (t_ndB w2 && (t_un w2 (0, 6) && (t_un w2 (0, 12) && t_nc w2 19))) = true) (hc : ((gi 0 12).toInt = 0 → (g1 0 12).toInt = 0) ∧ ((gi 0 12).toInt ≠ 0 → (g1 0 12).toInt = (gi 0 12).toInt - 1)) (q2 : ((g1 69 75).toInt = 0 → g2 70 = g1 70) ∧ ((g1 69 75).toInt ≠ 0 → ∀ j, g2 70 j = t_cpy (g1 70) (g1 69 75).toInt.toNat 0 350 j)) : t_KQ g2 := by
  simp only [Bool.and_eq_true] at hw1
  obtain ⟨n0, n19, n70, n75⟩ := hw1
  have f1 := t_F_X xh
  have r70 : g1 70 = gi 70 := t_F_nc f1 n70 (by decide)
  have r75 : (g1 69 75).toInt = (gi 0 12).toInt := by rw [(f1 69 75 (by decide) (t_un_ok n75)).1, ← t_R_mk hR]
  obtain ⟨m0, m6, m12, m19⟩ := t_D_m xm hw2
  by_cases h3 : (gi 0 12).toInt = 0
  · have e70 : ∀ j, g2 70 j = gi 70 j := fun j => by rw [q2.1 (by omega), r70]
    refine ⟨hK.1.mv (fun j _ _ _ => e70 _), fun k hk => ?_⟩
    rw [m12] at hk
    have := hc.1 h3
    omega
  · have e70 : ∀ j, g2 70 j = t_cpy (gi 70) (gi 0 12).toInt.toNat 0 350 j := fun j => by rw [q2.2 (by omega), r70, r75]
    have ec := hc.2 h3
    have off : ∀ j, 350 ≤ j → g2 70 j = gi 70 j := fun j hj => by
      rw [e70]; unfold t_cpy; rw [if_neg (by omega)]
    refine ⟨(hK.2 ((gi 0 12).toInt - 1).toNat (by omega)).mv (fun j hj _ _ => ?_), fun k hk => ?_⟩
    · rw [e70]; unfold t_cpy
      rw [if_pos (by omega), show 0 + j - 350 * 0 + 350 * (gi 0 12).toInt.toNat = 350 * (((gi 0 12).toInt - 1).toNat + 1) + j by omega]
    · rw [m12] at hk
      exact (hK.2 k (by omega)).mv (fun j hj _ _ => off _ (by omega))
end KQ
/-! ===== the class lays it ===== -/
noncomputable def s_may2 (k n x p l v : Int) : Prop := v = 1 ↔ (0 ≤ k ∧ k < n ∧ x ≤ 240 ∧ p ≤ x ∧ (l = 0 ∨ x = p))
noncomputable def s_W1 (g : Nat → Nat → Int32) (P W : Nat → Nat → Int) : Prop := (∀ s : Nat, (s : Int) < P 0 0 → (g 30 s).toInt = W 0 s) ∧ ∀ c : Nat, (c : Int) < P 0 1 → (g 36 c).toInt = W 1 c
/-- the beginnings of a kind -/
noncomputable def s_kd (k : Int) (L : s_RL) : s_RL := L.filter (fun t => decide (t.1 = k))
noncomputable def s_mnu (L : s_RL) (j : Nat) : Int := match L[j]? with
  | none => 0
  | some t => t.2.1
noncomputable def s_P1 (g : Nat → Nat → Int32) (L : s_RL) : Prop := (g 28 6).toInt = (L.length : Int) ∧ ∀ (k : Nat) (t : Int × Int × Int), L[k]? = some t → (g 41 (3 * k)).toInt = t.1 ∧ (g 41 (3 * k + 1)).toInt = t.2.1 ∧ (g 41 (3 * k + 2)).toInt = t.2.2
/-- what is laid, and when each begins -/
noncomputable def s_C1 (g : Nat → Nat → Int32) (s c : Nat) (L : s_RL) : Prop := s_P1 g L ∧ ((s_kd 0 L).length = s ∧ (s_kd 1 L).length = c) ∧ (∀ j : Nat, j < s → (g 43 j).toInt = s_mnu (s_kd 0 L) j) ∧ ∀ j : Nat, j < c → (g 44 j).toInt = s_mnu (s_kd 1 L) j
section LAYP
variable {P W : Nat → Nat → Int} {g gA gF g0 g1 g2 g3 g4 : Nat → Nat → Int32} {r : Nat → Nat → Value} {m x v w : Int} {o s c n : Nat} {k y i1 i2 i3 a b d z : Int32} {L : s_RL} {t : Int × Int × Int}
theorem s_yS_iff (hO : s_PO P) (ho : o = 1) (h0 : 0 ≤ m) (hc : (s : Int) < P 0 0 ∧ m ≤ 240 ∧ P 1 s ≤ m ∧ (P 4 s = 0 ∨ m = P 1 s)) (hl : s_LS P m o s c < 1000000000) : s_yS P m o s c ↔ s_LS P (m + P 2 s) 1 (s + 1) c ≤ s_LS P m o s c - (m - P 1 s) * P 3 s := by
  subst ho
  obtain ⟨k, hk, e⟩ := s_LS_e (c := c) (s_hdS hc.1 : ¬ s_gn P s c)
  have e1 := e m 1
  have hb : s_bS P m 1 s = m := by unfold s_bS; rw [if_pos rfl]; omega
  have ho2 : s_oS P (s_ls P k) m s c = min ((m - P 1 s) * P 3 s + s_LS P (m + P 2 s) 1 (s + 1) c) 1000000000 := by
    unfold s_oS
    rw [if_pos ⟨hc.1, hc.2.1, hc.2.2.2⟩, s_LS_k (k := k) (s_rem2 hk hc.1)]
  rw [hb, ho2] at e1
  constructor
  · rintro ⟨-, -, -, -, -, h⟩; omega
  · intro h; exact ⟨rfl, hc.1, hc.2.1, hc.2.2.1, hc.2.2.2, by omega⟩
theorem s_yC_iff (hO : s_PO P) (ho : o = 0) (h0 : 0 ≤ m) (hc : (c : Int) < P 0 1 ∧ m ≤ 240 ∧ P 5 c ≤ m) (hl : s_LS P m o s c < 1000000000) : s_yC P m o s c ↔ s_LS P (m + P 6 c) 0 s (c + 1) ≤ s_LS P m o s c - (m - P 5 c) * P 7 c := by
  subst ho
  obtain ⟨k, hk, e⟩ := s_LS_e (s := s) (s_hdC hc.1 : ¬ s_gn P s c)
  have e1 := e m 0
  have hb : s_bC P m 0 c = m := by unfold s_bC; rw [if_neg (by omega)]; omega
  have ho2 : s_oC P (s_ls P k) m s c = min ((m - P 5 c) * P 7 c + s_LS P (m + P 6 c) 0 s (c + 1)) 1000000000 := by
    unfold s_oC
    rw [if_pos ⟨hc.1, hc.2.1⟩, s_LS_k (k := k) (s_rem3 hk hc.1)]
  rw [hb, ho2] at e1
  constructor
  · rintro ⟨-, -, -, -, h⟩; omega
  · intro h; exact ⟨rfl, hc.1, hc.2.1, hc.2.2, by omega⟩
/-- what canBegin tells, waitsOf -/
theorem s_mb_S (hc : s_CP P g r) (q : s_may2 k.toInt (g 29 0).toInt x (g 31 k.toNatClampNeg).toInt (g 34 k.toNatClampNeg).toInt v) (h0 : 0 ≤ k.toInt) : v = 1 ↔ (((k.toNatClampNeg : Nat) : Int) < P 0 0 ∧ x ≤ 240 ∧ P 1 k.toNatClampNeg ≤ x ∧ (P 4 k.toNatClampNeg = 0 ∨ x = P 1 k.toNatClampNeg)) := by
  have c1 := t_clamp (i := k) h0
  unfold s_may2 at q
  rw [hc.1.1] at q
  rw [q]
  constructor
  · rintro ⟨-, h1, h2, h3, h4⟩
    have hs := hc.2.1 k.toNatClampNeg (by omega)
    rw [hs.1] at h3 h4
    rw [hs.2.2.2] at h4
    exact ⟨by omega, h2, h3, h4⟩
  · rintro ⟨h1, h2, h3, h4⟩
    have hs := hc.2.1 k.toNatClampNeg h1
    rw [hs.1, hs.2.2.2]
    exact ⟨h0, by omega, h2, h3, h4⟩
theorem s_mb_C (hc : s_CP P g r) (q : s_may2 k.toInt (g 35 0).toInt x (g 37 k.toNatClampNeg).toInt (g 40 k.toNatClampNeg).toInt v) (h0 : 0 ≤ k.toInt) : v = 1 ↔ (((k.toNatClampNeg : Nat) : Int) < P 0 1 ∧ x ≤ 240 ∧ P 5 k.toNatClampNeg ≤ x) := by
  have c1 := t_clamp (i := k) h0
  unfold s_may2 at q
  rw [hc.1.2] at q
  rw [q]
  constructor
  · rintro ⟨-, h1, h2, h3, h4⟩
    have hs := hc.2.2.1 k.toNatClampNeg (by omega)
    rw [hs.1] at h3
    exact ⟨by omega, h2, h3⟩
  · rintro ⟨h1, h2, h3⟩
    have hs := hc.2.2.1 k.toNatClampNeg h1
    rw [hs.1]
    exact ⟨h0, by omega, h2, h3, Or.inl hs.2.2.2⟩
theorem s_wt_S (hc : s_CP P g r) (hO : s_PO P) (hB : s_PB P) (q : s_wts k.toInt (g 29 0).toInt x (g 31 k.toNatClampNeg).toInt (g 33 k.toNatClampNeg).toInt v) (h0 : 0 ≤ k.toInt) (h1 : ((k.toNatClampNeg : Nat) : Int) < P 0 0) (h2 : x ≤ 240) (h3 : P 1 k.toNatClampNeg ≤ x) : v = (x - P 1 k.toNatClampNeg) * P 3 k.toNatClampNeg ∧ 0 ≤ v ∧ v ≤ 240000 := by
  have c1 := t_clamp (i := k) h0
  have hs := hc.2.1 k.toNatClampNeg h1
  have ho := hO.1 _ h1
  have hb := hB.2.1 _ h1
  unfold s_wts at q
  rw [hc.1.1, hs.1, hs.2.2.1] at q
  have h := q h0 (by omega) h3 (by omega) ho.2.2 hb.2.2
  omega
theorem s_wt_C (hc : s_CP P g r) (hO : s_PO P) (hB : s_PB P) (q : s_wts k.toInt (g 35 0).toInt x (g 37 k.toNatClampNeg).toInt (g 39 k.toNatClampNeg).toInt v) (h0 : 0 ≤ k.toInt) (h1 : ((k.toNatClampNeg : Nat) : Int) < P 0 1) (h2 : x ≤ 240) (h3 : P 5 k.toNatClampNeg ≤ x) : v = (x - P 5 k.toNatClampNeg) * P 7 k.toNatClampNeg ∧ 0 ≤ v ∧ v ≤ 240000 := by
  have c1 := t_clamp (i := k) h0
  have hs := hc.2.2.1 k.toNatClampNeg h1
  have ho := hO.2.1 _ h1
  have hb := hB.2.2.1 _ h1
  unfold s_wts at q
  rw [hc.1.2, hs.1, hs.2.2.1] at q
  have h := q h0 (by omega) h3 (by omega) ho.2.2 hb.2.2
  omega
theorem s_W1.fr {sh : List (Nat ⊕ (Nat × Nat))} {gl l1 : Nat → Nat → Int64} {gr r1 : Nat → Nat → Value} {wl : List (Nat × Nat)} (h : s_W1 g P W) (hX : t_X wl sh g gl gr g1 l1 r1) (hw : (t_nc wl 30 && t_nc wl 36) = true) : s_W1 g1 P W := by
  rw [Bool.and_eq_true] at hw
  have f := t_F_X hX
  unfold s_W1
  rw [t_F_nc f hw.1 (by decide), t_F_nc f hw.2 (by decide)]; exact h
/-- kept -/
theorem s_P1_add (h : s_P1 g0 L) (e1 : g1 = x_up2 g0 41 i1.toNatClampNeg a) (e2 : g2 = x_up2 g1 41 i2.toNatClampNeg b) (e3 : g3 = x_up2 g2 41 i3.toNatClampNeg d) (e4 : g4 = x_up2 g3 28 6 z) (k1 : i1.toInt = 3 * (g0 28 6).toInt) (k2 : i2.toInt = 3 * (g0 28 6).toInt + 1) (k3 : i3.toInt = 3 * (g0 28 6).toInt + 2) (k4 : z.toInt = (g0 28 6).toInt + 1) (h1 : a.toInt = t.1) (h2 : b.toInt = t.2.1) (h3 : d.toInt = t.2.2) : s_P1 g4 (L ++ [t]) := by
  obtain ⟨hn, hl⟩ := h
  have c1 := t_clamp (i := i1) (by omega)
  have c2 := t_clamp (i := i2) (by omega)
  have c3 := t_clamp (i := i3) (by omega)
  have o21 : g4 41 = g3 41 := by rw [e4]; exact x_up2_ne (by decide)
  have q1 : g4 41 (3 * L.length) = a := by
    rw [o21, e3, x_up2_off (Or.inr (by omega)), e2, x_up2_off (Or.inr (by omega)), e1, show 3 * L.length = i1.toNatClampNeg by omega, x_up2_at]
  have q2 : g4 41 (3 * L.length + 1) = b := by
    rw [o21, e3, x_up2_off (Or.inr (by omega)), e2, show 3 * L.length + 1 = i2.toNatClampNeg by omega, x_up2_at]
  have q3 : g4 41 (3 * L.length + 2) = d := by
    rw [o21, e3, show 3 * L.length + 2 = i3.toNatClampNeg by omega, x_up2_at]
  have q4 : ∀ j, j < 3 * L.length → g4 41 j = g0 41 j := by
    intro j hj
    rw [o21, e3, x_up2_off (Or.inr (by omega)), e2, x_up2_off (Or.inr (by omega)), e1, x_up2_off (Or.inr (by omega))]
  refine ⟨by rw [e4, x_up2_at, List.length_append]; show _ = ((L.length + 1 : Nat) : Int); omega, fun k t' hk => ?_⟩
  rcases s_ap_get hk with ⟨k1, k2⟩ | ⟨k1, k2⟩
  · rw [q4 _ (by omega), q4 _ (by omega), q4 _ (by omega)]; exact hl k t' k2
  · subst k1; subst k2
    rw [q1, q2, q3]; exact ⟨h1, h2, h3⟩
theorem s_P1.cg (h : s_P1 g L) (e1 : g1 28 6 = g 28 6) (e2 : g1 41 = g 41) : s_P1 g1 L := by
  unfold s_P1; rw [e1, e2]; exact h
theorem s_C1_0 (h : (g 28 6).toInt = 0) : s_C1 g 0 0 [] := ⟨⟨h, fun k t hk => absurd hk (by intro h2; cases h2)⟩, ⟨rfl, rfl⟩, fun j hj => absurd hj (by omega), fun j hj => absurd hj (by omega)⟩
theorem s_C1.cg (h : s_C1 g s c L) (e1 : g1 28 6 = g 28 6) (e2 : g1 41 = g 41) (e3 : g1 43 = g 43) (e4 : g1 44 = g 44) : s_C1 g1 s c L := by
  unfold s_C1; rw [e3, e4]; exact ⟨h.1.cg e1 e2, h.2⟩
theorem s_kd_n {k : Int} (h : ¬ t.1 = k) : s_kd k (L ++ [t]) = s_kd k L := by
  unfold s_kd
  rw [List.filter_append]
  simp [h]
theorem s_kd_y {k : Int} (h : t.1 = k) : s_kd k (L ++ [t]) = s_kd k L ++ [t] := by
  unfold s_kd
  rw [List.filter_append]
  simp [h]
theorem s_mnu_l {j : Nat} (h : j < L.length) : s_mnu (L ++ [t]) j = s_mnu L j := by
  unfold s_mnu
  rw [List.getElem?_append_left h]
theorem s_mnu_r : s_mnu (L ++ [t]) L.length = t.2.1 := by
  unfold s_mnu
  rw [List.getElem?_append_right (Nat.le_refl _), Nat.sub_self]
  rfl
/-- a turn -/
theorem s_C1_T (h : s_C1 g s c L) (hA : s_P1 gA (L ++ [(2, m, -1)])) (e3 : gA 43 = g 43) (e4 : gA 44 = g 44) : s_C1 gA s c (L ++ [(2, m, -1)]) := by
  obtain ⟨-, ⟨h1, h2⟩, h3, h4⟩ := h
  have f0 : s_kd 0 (L ++ [(2, m, -1)]) = s_kd 0 L := s_kd_n (show ¬ (2 : Int) = 0 from by decide)
  have f1 : s_kd 1 (L ++ [(2, m, -1)]) = s_kd 1 L := s_kd_n (show ¬ (2 : Int) = 1 from by decide)
  refine ⟨hA, ?_⟩
  rw [f0, f1, e3, e4]
  exact ⟨⟨h1, h2⟩, h3, h4⟩
theorem s_C1_S {w : Int} (h : s_C1 g s c L) (hA : s_P1 gA (L ++ [(0, m, w)])) (e3 : gA 43 = g 43) (e4 : gA 44 = g 44) (eF : gF = x_up2 gA 43 k.toNatClampNeg y) (hk : k.toNatClampNeg = s) (hy : y.toInt = m) : s_C1 gF (s + 1) c (L ++ [(0, m, w)]) := by
  obtain ⟨-, ⟨h1, h2⟩, h3, h4⟩ := h
  have f0 : s_kd 0 (L ++ [(0, m, w)]) = s_kd 0 L ++ [(0, m, w)] := s_kd_y rfl
  have f1 : s_kd 1 (L ++ [(0, m, w)]) = s_kd 1 L := s_kd_n (show ¬ (0 : Int) = 1 from by decide)
  refine ⟨hA.cg (by rw [eF, x_up2_off (Or.inl (by decide))]) (by rw [eF, x_up2_ne (by decide)]), ?_⟩
  rw [f0, f1]
  refine ⟨⟨by rw [List.length_append, h1]; rfl, h2⟩, fun j hj => ?_, fun j hj => ?_⟩
  · by_cases hjs : j = s
    · rw [eF, show j = k.toNatClampNeg by omega, x_up2_at, hy, show k.toNatClampNeg = (s_kd 0 L).length by omega, s_mnu_r]
    · rw [eF, x_up2_off (Or.inr (by omega)), e3, s_mnu_l (by omega)]; exact h3 j (by omega)
  · rw [eF, x_up2_off (Or.inl (by decide)), e4]; exact h4 j hj
theorem s_C1_C {w : Int} (h : s_C1 g s c L) (hA : s_P1 gA (L ++ [(1, m, w)])) (e3 : gA 43 = g 43) (e4 : gA 44 = g 44) (eF : gF = x_up2 gA 44 k.toNatClampNeg y) (hk : k.toNatClampNeg = c) (hy : y.toInt = m) : s_C1 gF s (c + 1) (L ++ [(1, m, w)]) := by
  obtain ⟨-, ⟨h1, h2⟩, h3, h4⟩ := h
  have f0 : s_kd 0 (L ++ [(1, m, w)]) = s_kd 0 L := s_kd_n (show ¬ (1 : Int) = 0 from by decide)
  have f1 : s_kd 1 (L ++ [(1, m, w)]) = s_kd 1 L ++ [(1, m, w)] := s_kd_y rfl
  refine ⟨hA.cg (by rw [eF, x_up2_off (Or.inl (by decide))]) (by rw [eF, x_up2_ne (by decide)]), ?_⟩
  rw [f0, f1]
  refine ⟨⟨h1, by rw [List.length_append, h2]; rfl⟩, fun j hj => ?_, fun j hj => ?_⟩
  · rw [eF, x_up2_off (Or.inl (by decide)), e3]; exact h3 j hj
  · by_cases hjs : j = c
    · rw [eF, show j = k.toNatClampNeg by omega, x_up2_at, hy, show k.toNatClampNeg = (s_kd 1 L).length by omega, s_mnu_r]
    · rw [eF, x_up2_off (Or.inr (by omega)), e4, s_mnu_l (by omega)]; exact h4 j (by omega)
end LAYP
section INCE
variable {X : x_Ext} {d mi pc nx a b q len ml : Nat} {z : Int} {lo : x_Lo} {r : List Value} {P : Option Value → x_G → Prop} {T : List (Nat × x_Row)} {rt : Option FieldType} {sh : List (Nat ⊕ (Nat × Nat))} {gi : Nat → Nat → Int32} {gl : Nat → Nat → Int64} {gr : Nat → Nat → Value}
theorem ev_incE {n0 : Int} {x c : Int32} {jj : Nat} (F : x_F mi T ml rt) (hr : x_lk T pc = some (.iinc jj n0, len, a, b, q, z)) (hg : x_get lo jj = some (.int x)) (hc : Int32.ofInt n0 = c) (hj : decide (jj < ml) = true) (hn : pc + len = nx) (kk : ∀ w : Int32, w = x + c → x_Ev X d mi nx (x_set1 lo jj (.int w)) r (sh, gi, gl, gr) P) : x_Ev X d mi pc lo r (sh, gi, gl, gr) P := ev_inc F hr hg hc hj rfl hn (kk _ rfl)
end INCE
theorem ev_cpyTIE {X : x_Ext} {d mi pc nx b len ml q : Nat} {z : Int} {lo : x_Lo} {P : Option Value → x_G → Prop} {T : List (Nat × x_Row)} {rt : Option FieldType} {sh : List (Nat ⊕ (Nat × Nat))} {gi gi0 : Nat → Nat → Int32} {gl gl0 : Nat → Nat → Int64} {gr gr0 : Nat → Nat → Value} {wl : List (Nat × Nat)} {ins : Instr} {k0 k1 n0 n1 : Nat} {i1 i2 i3 : Int32} {u1 u2 u3 : Int} (F : x_F mi T ml rt) (hr : x_lk T pc = some (ins, len, 1001, b, q, z)) (hc : x_cat ins = 4) (h0 : sh[k0]? = some (.inr (0, n0))) (h1 : sh[k1]? = some (.inr (0, n1))) (hd : 1 ≤ d) (a1 : 0 ≤ i1.toInt) (b1 : i1.toInt ≤ u1) (a2 : 0 ≤ i2.toInt) (b2 : i2.toInt ≤ u2) (a3 : 0 ≤ i3.toInt) (b3 : i3.toInt ≤ u3) (c0 : decide (u1 + u3 ≤ (n0 : Int)) = true) (c1 : decide (u2 + u3 ≤ (n1 : Int)) = true) (hn : pc + 3 = nx) (hI : t_I sh (fun a => if a = k1 then va_cpy (gi k0) (gi k1) i1.toNatClampNeg i2.toNatClampNeg i3.toNatClampNeg else gi a) gr) (hX : t_X wl sh gi0 gl0 gr0 (fun a => if a = k1 then va_cpy (gi k0) (gi k1) i1.toNatClampNeg i2.toNatClampNeg i3.toNatClampNeg else gi a) gl gr) (kk : ∀ g2, g2 = (fun a => if a = k1 then va_cpy (gi k0) (gi k1) i1.toNatClampNeg i2.toNatClampNeg i3.toNatClampNeg else gi a) → t_I sh g2 gr → t_X wl sh gi0 gl0 gr0 g2 gl gr → x_Ev X d mi nx lo [] (sh, g2, gl, gr) P) : x_Ev X d mi pc lo [.int i3, .int i2, .ref k1, .int i1, .ref k0] (sh, gi, gl, gr) P := by
  have c0 := of_decide_eq_true c0
  have c1 := of_decide_eq_true c1
  have e1 := t_clamp a1
  have e2 := t_clamp a2
  have e3 := t_clamp a3
  have h0' : (0 : Int32).toInt = 0 := rfl
  obtain ⟨m, v, G', e4, e5⟩ := kk _ rfl hI hX
  refine ⟨m + 1, v, G', ?_, e5⟩
  unfold x_exec; rw [x_Frow F hr]; dsimp only
  rw [hc]; (try dsimp only)
  rw [if_neg (by decide), if_pos rfl, h0, h1]; dsimp only
  rw [if_pos ⟨rfl, by decide, hd, by rw [Int32.lt_iff_toInt_lt]; omega, by rw [Int32.lt_iff_toInt_lt]; omega, by rw [Int32.lt_iff_toInt_lt]; omega, by omega, by omega⟩, hn]
  exact e4
/-- what is told of the plan -/
noncomputable def s_P2 (g : Nat → Nat → Int32) (L : s_RL) : Prop := (g 28 8).toInt = (L.length : Int) ∧ ∀ (k : Nat) (t : Int × Int × Int), L[k]? = some t → (g 42 (3 * k)).toInt = t.1 ∧ (g 42 (3 * k + 1)).toInt = t.2.1 ∧ (g 42 (3 * k + 2)).toInt = t.2.2
noncomputable def s_WD (D : s_D) (k j : Nat) : Int := if k = 0 then ((s_or (s_A D) (D 1).toNat j : Nat) : Int) else ((s_or (s_B D) (D 2).toNat j : Nat) : Int)
/-- the PLAN -/
noncomputable def s_PL (D : s_D) : s_RL := s_pl (s_PD D (D 4)) (s_WD D) 241 0 0 0 0
theorem s_T1_of {D : s_D} {q : Int} (h : s_tk D) (hb : t_Cb D) : s_T1 (s_PD D q) := by
  refine ⟨fun s hs => ?_, fun c hc => ?_⟩
  · have hs2 : s < (D 1).toNat := Int.ofNat_lt.mp (show (s : Int) < (((D 1).toNat : Nat) : Int) from hs)
    exact h.1 _ (s_PD_F hb.2.1.1 s hs2)
  · have hc2 : c < (D 2).toNat := Int.ofNat_lt.mp (show (c : Int) < (((D 2).toNat : Nat) : Int) from hc)
    exact h.2 _ (s_PD_G hb.2.2.1 c hc2)
section TOLDP
variable {g g1 g2 : Nat → Nat → Int32} {L : s_RL} {x : Int32}
theorem s_P2.cg (h : s_P2 g L) (e1 : g1 28 8 = g 28 8) (e2 : g1 42 = g 42) : s_P2 g1 L := by
  unfold s_P2; rw [e1, e2]; exact h
theorem s_P2_of (h : s_P1 g L) (h24 : (g 28 6).toInt ≤ 24) (e : g1 = (fun a => if a = 42 then va_cpy (g 41) (g 42) (0 : Int32).toNatClampNeg (0 : Int32).toNatClampNeg (72 : Int32).toNatClampNeg else g a)) (e8 : g2 = x_up2 g1 28 8 x) (hx : x.toInt = (g 28 6).toInt) : s_P2 g2 L := by
  obtain ⟨hn, hl⟩ := h
  have z0 : (0 : Int32).toNatClampNeg = 0 := rfl
  have z72 : (72 : Int32).toNatClampNeg = 72 := rfl
  have hc : ∀ j, j < 72 → g2 42 j = g 41 j := fun j hj => by
    rw [e8, x_up2_off (Or.inl (by decide)), e]
    show (if 42 = 42 then va_cpy (g 41) (g 42) (0 : Int32).toNatClampNeg (0 : Int32).toNatClampNeg (72 : Int32).toNatClampNeg else g 42) j = _
    rw [if_pos rfl, z0, z72]
    unfold va_cpy
    rw [if_pos (by omega)]
    congr 1; omega
  refine ⟨by rw [e8, x_up2_at, hx]; exact hn, fun k t hk => ?_⟩
  have hk2 : k < L.length := by
    rcases Nat.lt_or_ge k L.length with h | h
    · exact h
    · rw [List.getElem?_eq_none h] at hk; cases hk
  rw [hc _ (by omega), hc _ (by omega), hc _ (by omega)]
  exact hl k t hk
end TOLDP
/-- one act of a plan told -/
noncomputable def s_tP (t : Int × Int × Int) : Prop := (t.1 = 2 ∧ t.2.2 = -1) ∨ ((t.1 = 0 ∨ t.1 = 1) ∧ 0 ≤ t.2.2)
noncomputable def s_LP (L : s_RL) : Prop := ∀ (k : Nat) (t : Int × Int × Int), L[k]? = some t → s_tP t
noncomputable def s_pd (L : s_RL) (k : Nat) (w : Int) : Int := match L[k]? with
  | none => -1
  | some t => if w = 0 then t.1 else if w = 1 then t.2.1 else t.2.2
theorem s_pd_g {L : s_RL} {k : Nat} (h : k < L.length) : ∃ t, L[k]? = some t := ⟨L[k], List.getElem?_eq_getElem h⟩
theorem s_pd_0 {L : s_RL} {k : Nat} {t : Int × Int × Int} (h : L[k]? = some t) : s_pd L k 0 = t.1 ∧ s_pd L k 1 = t.2.1 ∧ s_pd L k 2 = t.2.2 := by
  unfold s_pd; rw [h]; exact ⟨rfl, rfl, rfl⟩
theorem s_LP_n : s_LP [] := fun k t h => absurd h (by intro h2; cases h2)
theorem s_LP_c {L : s_RL} {t : Int × Int × Int} (h : s_tP t) (hl : s_LP L) : s_LP (t :: L) := by
  intro k t' hk
  cases k with
  | zero => exact Option.some.inj hk ▸ h
  | succ k => exact hl k t' hk
theorem s_pl_LP {P W : Nat → Nat → Int} (h0 : ∀ j, 0 ≤ W 0 j) (h1 : ∀ j, 0 ≤ W 1 j) : ∀ (n : Nat) (m : Int) (o s c : Nat), s_LP (s_pl P W n m o s c)
  | 0, _, _, _, _ => s_LP_n
  | n + 1, m, o, s, c => by
    show s_LP (s_if (s_gn P s c) _ _)
    by_cases hd : s_gn P s c
    · rw [s_ifT hd]; exact s_LP_n
    rw [s_ifF hd]
    by_cases hS : s_yS P m o s c
    · rw [s_ifT hS]; exact s_LP_c (Or.inr ⟨Or.inl rfl, h0 s⟩) (s_pl_LP h0 h1 n _ _ _ _)
    rw [s_ifF hS]
    by_cases hC : s_yC P m o s c
    · rw [s_ifT hC]; exact s_LP_c (Or.inr ⟨Or.inr rfl, h1 c⟩) (s_pl_LP h0 h1 n _ _ _ _)
    rw [s_ifF hC]
    by_cases hr : s_LS P (m + 1) o s c = s_LS P m o s c
    · rw [s_ifT hr]; exact s_pl_LP h0 h1 n _ _ _ _
    · rw [s_ifF hr]; exact s_LP_c (Or.inl ⟨rfl, rfl⟩) (s_pl_LP h0 h1 n _ _ _ _)
theorem s_PL_LP {D : s_D} : s_LP (s_PL D) := s_pl_LP (fun j => by unfold s_WD; rw [if_pos rfl]; omega) (fun j => by unfold s_WD; rw [if_neg (by decide)]; omega) _ _ _ _ _
/-! ===== the other side lays it ===== -/
noncomputable def s_W3 (g : Nat → Nat → Int32) (D : s_D) : Prop := (g 69 48).toInt = D 4 ∧ (∀ s : Nat, s < t_S g → (g 90 s).toInt = s_WD D 0 s) ∧ ∀ c : Nat, c < t_C g → (g 91 c).toInt = s_WD D 1 c
noncomputable def s_P4 (g : Nat → Nat → Int32) (L : s_RL) : Prop := (g 69 55).toInt = (L.length : Int) ∧ ∀ (k : Nat) (t : Int × Int × Int), L[k]? = some t → (g 93 k).toInt = t.1 ∧ (g 94 k).toInt = t.2.1 ∧ (g 95 k).toInt = t.2.2
noncomputable def s_P5 (g : Nat → Nat → Int32) (L : s_RL) : Prop := (g 69 56).toInt = (L.length : Int) ∧ ∀ (k : Nat) (t : Int × Int × Int), L[k]? = some t → (g 96 k).toInt = t.1 ∧ (g 97 k).toInt = t.2.1 ∧ (g 98 k).toInt = t.2.2
/-- where one stands, by what is laid -/
noncomputable def s_jj (P : Nat → Nat → Int) (m : Int) (o s c : Nat) (L : s_RL) : Prop := (s_kd 2 L).length % 2 = o ∧ ((s_kd 0 L).length = s ∧ (s_kd 1 L).length = c) ∧ (s_gn P s c → o = 1 → 1 ≤ s ∧ m = s_mnu (s_kd 0 L) (s - 1) + P 2 (s - 1))
noncomputable def s_MQ (g : Nat → Nat → Int32) (D : s_D) (m : Int) (o s c : Nat) : Prop := s_TP g (D 4) (s_PD D (D 4)) ∧ s_W3 g D ∧ ∃ k, s_PI (s_PD D (D 4)) (s_WD D) (fun L => s_P4 g L ∧ s_jj (s_PD D (D 4)) m o s c L) k m o s c
/-- in which minute all have passed, if it is OPEN then -/
noncomputable def s_FE (D : s_D) (x : Int) : Prop := (s_kd 2 (s_PL D)).length % 2 = 1 → 1 ≤ D 1 ∧ x = s_mnu (s_kd 0 (s_PL D)) ((D 1).toNat - 1) + s_PD D (D 4) 2 ((D 1).toNat - 1)
/-- what stands when all is laid -/
noncomputable def s_FX (g : Nat → Nat → Int32) (D : s_D) : Prop := (s_TP g (D 4) (s_PD D (D 4)) ∧ s_W3 g D) ∧ (s_kd 0 (s_PL D)).length = (D 1).toNat ∧ (s_kd 1 (s_PL D)).length = (D 2).toNat
section JJ
variable {P : Nat → Nat → Int} {m w : Int} {o s c : Nat} {L : s_RL}
theorem s_jj_S (h : s_jj P m o s c L) (ho : o = 1) : s_jj P (m + P 2 s) 1 (s + 1) c (L ++ [(0, m, w)]) := by
  obtain ⟨h1, ⟨h2, h3⟩, -⟩ := h
  have f2 : s_kd 2 (L ++ [(0, m, w)]) = s_kd 2 L := s_kd_n (show ¬ (0 : Int) = 2 from by decide)
  have f1 : s_kd 1 (L ++ [(0, m, w)]) = s_kd 1 L := s_kd_n (show ¬ (0 : Int) = 1 from by decide)
  have f0 : s_kd 0 (L ++ [(0, m, w)]) = s_kd 0 L ++ [(0, m, w)] := s_kd_y rfl
  refine ⟨by rw [f2, h1, ho], ⟨by rw [f0, List.length_append, h2]; rfl, by rw [f1]; exact h3⟩, fun _ _ => ⟨by omega, ?_⟩⟩
  rw [f0, show s + 1 - 1 = s by omega, ← h2, s_mnu_r]
theorem s_jj_C (h : s_jj P m o s c L) (ho : o = 0) : s_jj P (m + P 6 c) 0 s (c + 1) (L ++ [(1, m, w)]) := by
  obtain ⟨h1, ⟨h2, h3⟩, -⟩ := h
  have f2 : s_kd 2 (L ++ [(1, m, w)]) = s_kd 2 L := s_kd_n (show ¬ (1 : Int) = 2 from by decide)
  have f0 : s_kd 0 (L ++ [(1, m, w)]) = s_kd 0 L := s_kd_n (show ¬ (1 : Int) = 0 from by decide)
  have f1 : s_kd 1 (L ++ [(1, m, w)]) = s_kd 1 L ++ [(1, m, w)] := s_kd_y rfl
  exact ⟨by rw [f2, h1, ho], ⟨by rw [f0]; exact h2, by rw [f1, List.length_append, h3]; rfl⟩, fun _ h => absurd h (by decide)⟩
theorem s_jj_R (h : s_jj P m o s c L) (hd : ¬ s_gn P s c) : s_jj P (m + 1) o s c L := ⟨h.1, h.2.1, fun h => absurd h hd⟩
theorem s_jj_T {m' : Int} (h : s_jj P m o s c L) (hd : ¬ s_gn P s c) (ho : o ≤ 1) : s_jj P m' (1 - o) s c (L ++ [(2, m, -1)]) := by
  obtain ⟨h1, ⟨h2, h3⟩, -⟩ := h
  have f2 : s_kd 2 (L ++ [(2, m, -1)]) = s_kd 2 L ++ [(2, m, -1)] := s_kd_y rfl
  have f0 : s_kd 0 (L ++ [(2, m, -1)]) = s_kd 0 L := s_kd_n (show ¬ (2 : Int) = 0 from by decide)
  have f1 : s_kd 1 (L ++ [(2, m, -1)]) = s_kd 1 L := s_kd_n (show ¬ (2 : Int) = 1 from by decide)
  exact ⟨by rw [f2, List.length_append]; show ((s_kd 2 L).length + 1) % 2 = _; omega, ⟨by rw [f0]; exact h2, by rw [f1]; exact h3⟩, fun h => absurd h hd⟩
end JJ
section MQ
variable {D : s_D} {P W : Nat → Nat → Int} {p g g' g0 g1 g2 g3 g4 : Nat → Nat → Int32} {q : Int} {L : s_RL} {t : Int × Int × Int} {i1 a b d n : Int32} {m' o' s' c' w who : Int32}
theorem s_TP.sp (hT : s_TP p q P) (h : t_sp p g) : s_TP g q P := by
  unfold s_TP
  rw [t_S_sp h, t_C_sp h, t_sa_sp h, t_st_sp h, t_so_sp h, t_ss_sp h, t_ca_sp h, t_ct_sp h, t_cc_sp h, t_tt_sp h]
  exact hT
theorem s_W3.sp (hW : s_W3 p D) (h : t_sp p g) : s_W3 g D := by
  unfold s_W3
  rw [t_S_sp h, t_C_sp h, h.2.2.1, h.2.2.2.2.2.1, h.2.2.2.2.2.2]
  exact hW
theorem s_FX.sp (h : s_FX p D) (hs : t_sp p g) : s_FX g D := ⟨⟨h.1.1.sp hs, h.1.2.sp hs⟩, h.2⟩
theorem s_P4.cg (h : s_P4 g L) (e1 : g1 69 55 = g 69 55) (e2 : g1 93 = g 93) (e3 : g1 94 = g 94) (e4 : g1 95 = g 95) : s_P4 g1 L := by
  unfold s_P4; rw [e1, e2, e3, e4]; exact h
theorem s_P5.cg (h : s_P5 g L) (e1 : g1 69 56 = g 69 56) (e2 : g1 96 = g 96) (e3 : g1 97 = g 97) (e4 : g1 98 = g 98) : s_P5 g1 L := by
  unfold s_P5; rw [e1, e2, e3, e4]; exact h
theorem s_P4_add (h : s_P4 g0 L) (e1 : g1 = x_up2 g0 93 i1.toNatClampNeg a) (e2 : g2 = x_up2 g1 94 i1.toNatClampNeg b) (e3 : g3 = x_up2 g2 95 i1.toNatClampNeg d) (e4 : g4 = x_up2 g3 69 55 n) (k1 : i1.toInt = (g0 69 55).toInt) (k4 : n.toInt = (g0 69 55).toInt + 1) (h1 : a.toInt = t.1) (h2 : b.toInt = t.2.1) (h3 : d.toInt = t.2.2) : s_P4 g4 (L ++ [t]) := by
  obtain ⟨hn, hl⟩ := h
  have c1 := t_clamp (i := i1) (by omega)
  have d1 : ∀ j, g4 93 j = x_up2 g0 93 i1.toNatClampNeg a 93 j := fun j => by rw [e4, x_up2_off (Or.inl (by decide)), e3, x_up2_off (Or.inl (by decide)), e2, x_up2_off (Or.inl (by decide)), e1]
  have d2 : ∀ j, g4 94 j = x_up2 g1 94 i1.toNatClampNeg b 94 j := fun j => by rw [e4, x_up2_off (Or.inl (by decide)), e3, x_up2_off (Or.inl (by decide)), e2]
  have d3 : ∀ j, g4 95 j = x_up2 g2 95 i1.toNatClampNeg d 95 j := fun j => by rw [e4, x_up2_off (Or.inl (by decide)), e3]
  have o1 : ∀ j, g1 94 j = g0 94 j := fun j => by rw [e1, x_up2_off (Or.inl (by decide))]
  have o2 : ∀ j, g2 95 j = g0 95 j := fun j => by rw [e2, x_up2_off (Or.inl (by decide)), e1, x_up2_off (Or.inl (by decide))]
  refine ⟨by rw [e4, x_up2_at, List.length_append]; show _ = ((L.length + 1 : Nat) : Int); omega, fun k t' hk => ?_⟩
  rw [d1, d2, d3]
  rcases s_ap_get hk with ⟨k1, k2⟩ | ⟨k1, k2⟩
  · rw [x_up2_off (Or.inr (by omega)), x_up2_off (Or.inr (by omega)), x_up2_off (Or.inr (by omega)), o1, o2]; exact hl k t' k2
  · subst k2
    rw [show k = i1.toNatClampNeg by omega, x_up2_at, x_up2_at, x_up2_at]; exact ⟨h1, h2, h3⟩
theorem s_cq3 {y z : Int32} (h : ∀ k : Nat, (k : Int) < y.toInt → g0 96 k = g0 93 k ∧ g0 97 k = g0 94 k ∧ g0 98 k = g0 95 k) (e1 : g1 = x_up2 g0 96 y.toNatClampNeg a) (l1 : a = g0 93 y.toNatClampNeg) (e2 : g2 = x_up2 g1 97 y.toNatClampNeg b) (l2 : b = g1 94 y.toNatClampNeg) (e3 : g3 = x_up2 g2 98 y.toNatClampNeg d) (l3 : d = g2 95 y.toNatClampNeg) (h0 : 0 ≤ y.toInt) (hz : z.toInt = y.toInt + 1) : ∀ k : Nat, (k : Int) < z.toInt → g3 96 k = g3 93 k ∧ g3 97 k = g3 94 k ∧ g3 98 k = g3 95 k := by
  intro k hk
  have c1 := t_clamp (i := y) h0
  have o : ∀ q j, q ≠ 96 → q ≠ 97 → q ≠ 98 → g3 q j = g0 q j := fun q j a1 a2 a3 => by rw [e3, x_up2_off (Or.inl a3), e2, x_up2_off (Or.inl a2), e1, x_up2_off (Or.inl a1)]
  rw [o 93 k (by decide) (by decide) (by decide), o 94 k (by decide) (by decide) (by decide), o 95 k (by decide) (by decide) (by decide)]
  have d1 : g3 96 k = x_up2 g0 96 y.toNatClampNeg a 96 k := by rw [e3, x_up2_off (Or.inl (by decide)), e2, x_up2_off (Or.inl (by decide)), e1]
  have d2 : g3 97 k = x_up2 g1 97 y.toNatClampNeg b 97 k := by rw [e3, x_up2_off (Or.inl (by decide)), e2]
  have o2 : g1 97 k = g0 97 k := by rw [e1, x_up2_off (Or.inl (by decide))]
  have o3 : g2 98 k = g0 98 k := by rw [e2, x_up2_off (Or.inl (by decide)), e1, x_up2_off (Or.inl (by decide))]
  rw [d1, d2, e3]
  by_cases hy : k = y.toNatClampNeg
  · subst hy
    rw [x_up2_at, x_up2_at, x_up2_at]
    refine ⟨l1, ?_, ?_⟩
    · rw [l2, e1, x_up2_off (Or.inl (by decide))]
    · rw [l3, e2, x_up2_off (Or.inl (by decide)), e1, x_up2_off (Or.inl (by decide))]
  · rw [x_up2_off (Or.inr hy), x_up2_off (Or.inr hy), x_up2_off (Or.inr hy), o2, o3]
    exact h k (by omega)
theorem s_P5_of (h : s_P4 g0 L) (h1 : (g 69 56).toInt = (g0 69 55).toInt) (h2 : ∀ k : Nat, (k : Int) < (g0 69 55).toInt → g 96 k = g0 93 k ∧ g 97 k = g0 94 k ∧ g 98 k = g0 95 k) : s_P5 g L := by
  obtain ⟨hn, hl⟩ := h
  refine ⟨h1.trans hn, fun k t hk => ?_⟩
  have hk2 : k < L.length := by
    rcases Nat.lt_or_ge k L.length with h | h
    · exact h
    · rw [List.getElem?_eq_none h] at hk; cases hk
  obtain ⟨a1, a2, a3⟩ := h2 k (by omega)
  rw [a1, a2, a3]; exact hl k t hk
end MQ
section MQS
variable {D : s_D} {P : Nat → Nat → Int} {g g' : Nat → Nat → Int32} {q : Int} {m o s c : Nat}
/-- in the table's words -/
theorem s_yS_TP (H : t_pr g (g 92) q 23618) (hT : s_TP g q P) (hP : s_PO P) (hS : t_S g ≤ 6) (hC : t_C g ≤ 6) (ho : o ≤ 1) (hs : s ≤ t_S g) (hc : c ≤ t_C g) (hm : m ≤ 240) : s_yS P (m : Int) o s c ↔ (t_mayS g m o s ∧ t_bys g (g 92) m s c = t_la (g 92) (t_S g) (t_C g) m o s c) := by
  have hL := s_VLS (m := m) (o := o) (s := s) (c := c) H hT hP hS hC ho hs hc
  rw [hL]
  unfold s_yS t_mayS t_bys
  rw [hT.1.1]
  constructor
  · rintro ⟨h1, h2, h3, h4, h5, h6⟩
    have h2 : s < t_S g := by omega
    obtain ⟨p1, p2, p3, p4⟩ := hT.2.1 s h2
    have hL2 := s_VLS (m := m + t_st g s) (o := 1) (s := s + 1) (c := c) H hT hP hS hC (by decide) (by omega) hc
    rw [p1, p2, p3] at h6
    rw [p1] at h4 h5
    rw [p4] at h5
    refine ⟨⟨h1, h2, h4, h5.elim Or.inl (fun h => Or.inr h.symm)⟩, ?_⟩
    rw [hL2, ← h6]; rfl
  · rintro ⟨⟨h1, h2, h4, h5⟩, h6⟩
    obtain ⟨p1, p2, p3, p4⟩ := hT.2.1 s h2
    have hL2 := s_VLS (m := m + t_st g s) (o := 1) (s := s + 1) (c := c) H hT hP hS hC (by decide) (by omega) hc
    rw [hL2] at h6
    rw [p1, p2, p3, p4]
    exact ⟨h1, by omega, by omega, h4, h5.elim Or.inl (fun h => Or.inr h.symm), h6⟩
theorem s_yC_TP (H : t_pr g (g 92) q 23618) (hT : s_TP g q P) (hP : s_PO P) (hS : t_S g ≤ 6) (hC : t_C g ≤ 6) (ho : o ≤ 1) (hs : s ≤ t_S g) (hc : c ≤ t_C g) (hm : m ≤ 240) : s_yC P (m : Int) o s c ↔ (t_mayC g m o c ∧ t_byc g (g 92) m s c = t_la (g 92) (t_S g) (t_C g) m o s c) := by
  have hL := s_VLS (m := m) (o := o) (s := s) (c := c) H hT hP hS hC ho hs hc
  rw [hL]
  unfold s_yC t_mayC t_byc
  rw [hT.1.2]
  constructor
  · rintro ⟨h1, h2, h3, h4, h6⟩
    have h2 : c < t_C g := by omega
    obtain ⟨p1, p2, p3⟩ := hT.2.2.1 c h2
    have hL2 := s_VLS (m := m + t_ct g c) (o := 0) (s := s) (c := c + 1) H hT hP hS hC (by decide) hs (by omega)
    rw [p1, p2, p3] at h6
    rw [p1] at h4
    refine ⟨⟨h1, h2, h4⟩, ?_⟩
    rw [hL2, ← h6]; rfl
  · rintro ⟨⟨h1, h2, h4⟩, h6⟩
    obtain ⟨p1, p2, p3⟩ := hT.2.2.1 c h2
    have hL2 := s_VLS (m := m + t_ct g c) (o := 0) (s := s) (c := c + 1) H hT hP hS hC (by decide) hs (by omega)
    rw [hL2] at h6
    rw [p1, p2, p3]
    exact ⟨h1, by omega, by omega, h4, h6⟩
end MQS
section MQT
variable {D : s_D} {g g' : Nat → Nat → Int32} {m o s c m' o' s' c' w who : Int32}
/-- what each step has at hand -/
theorem s_MQ_h (hQ : s_MQ g D m.toInt o.toInt.toNat s.toInt.toNat c.toInt.toNat) (H : t_pla g m o s c) (hb : t_Cb D) (hd : s_DB D) (hm0 : 0 ≤ m.toInt) (ho0 : 0 ≤ o.toInt) (ho : o.toInt ≤ 1) (hs0 : 0 ≤ s.toInt) (hc0 : 0 ≤ c.toInt) : (s_PO (s_PD D (D 4)) ∧ s_PB (s_PD D (D 4))) ∧ (t_pr g (g 92) (D 4) 23618 ∧ t_S g ≤ 6 ∧ t_C g ≤ 6 ∧ o.toInt.toNat ≤ 1 ∧ s.toInt.toNat ≤ t_S g ∧ c.toInt.toNat ≤ t_C g) ∧ ((m.toInt.toNat : Nat) : Int) = m.toInt ∧ ∀ x : Nat, t_la (g 92) (t_S g) (t_C g) x o.toInt.toNat s.toInt.toNat c.toInt.toNat = s_LS (s_PD D (D 4)) (x : Int) o.toInt.toNat s.toInt.toNat c.toInt.toNat := by
  obtain ⟨hT, hW, k, hI⟩ := hQ
  have hO := s_PD_O (q := D 4) hb hd hd.2.2.1.1
  have hB := s_PD_B (q := D 4) hb hd ⟨hd.2.2.1.1, hd.2.2.1.2⟩
  have h1 := hT.1
  have b1 := hB.1
  have h5 := H.2.2.2.2.1
  have h6 := H.2.2.2.2.2.1
  have eS : (t_S g : Int) = (g 69 44).toInt := by unfold t_S; omega
  have eC : (t_C g : Int) = (g 69 45).toInt := by unfold t_C; omega
  have hpr : t_pr g (g 92) (D 4) 23618 := by have := H.1; rw [hW.1] at this; exact this
  exact ⟨⟨hO, hB⟩, ⟨hpr, by omega, by omega, by omega, by omega, by omega⟩, Int.toNat_of_nonneg hm0, fun x => s_VLS hpr hT hO (by omega) (by omega) (by omega) (by omega) (by omega)⟩
theorem s_MQ_S (hQ : s_MQ g D m.toInt o.toInt.toNat s.toInt.toNat c.toInt.toNat) (H : t_pla g m o s c) (hb : t_Cb D) (hd : s_DB D) (ht : s_tk D) (hm0 : 0 ≤ m.toInt) (hm : m.toInt ≤ 240) (ho0 : 0 ≤ o.toInt) (ho : o.toInt ≤ 1) (hs0 : 0 ≤ s.toInt) (hc0 : 0 ≤ c.toInt) (hmay : t_mayS g m.toInt.toNat o.toInt.toNat s.toInt.toNat) (heq : t_la (g 92) (t_S g) (t_C g) m.toInt.toNat o.toInt.toNat s.toInt.toNat c.toInt.toNat = t_bys g (g 92) m.toInt.toNat s.toInt.toNat c.toInt.toNat) (hw : t_st g s.toInt.toNat = w.toInt.toNat) (hw0 : 0 ≤ w.toInt) (im : m'.toInt = m.toInt + w.toInt) (is : s'.toInt = s.toInt + 1) (hsp : t_sp g g') (hwho : who.toInt = (g 90 s.toInt.toNat).toInt) (qa : ∀ (L : s_RL) (t : Int × Int × Int), s_P4 g L → (0 : Int) = t.1 → m.toInt = t.2.1 → who.toInt = t.2.2 → s_P4 g' (L ++ [t])) : s_MQ g' D m'.toInt o.toInt.toNat s'.toInt.toNat c.toInt.toNat := by
  obtain ⟨⟨hO, hB⟩, ⟨hpr, hS, hC, ho2, hs2, hc2⟩, em, hL⟩ := s_MQ_h hQ H hb hd hm0 ho0 ho hs0 hc0
  obtain ⟨hT, hW, k, hI⟩ := hQ
  have hy := (s_yS_TP hpr hT hO hS hC ho2 hs2 hc2 (by omega)).mpr ⟨hmay, heq.symm⟩
  rw [em] at hy
  have hP := s_PI_S (S' := fun L => s_P4 g' L ∧ s_jj (s_PD D (D 4)) (m.toInt + s_PD D (D 4) 2 s.toInt.toNat) 1 (s.toInt.toNat + 1) c.toInt.toNat L) hI hO (s_T1_of ht hb) (s_hdS hy.2.1) hB hy (fun L hL _ => ⟨qa L _ hL.1 rfl rfl (hwho.trans (hW.2.1 _ hmay.2.1)), s_jj_S hL.2 hmay.1⟩)
  have h2 := (hT.2.1 _ hmay.2.1).2.1
  have h1 := hmay.1
  refine ⟨hT.sp hsp, hW.sp hsp, k + 1, ?_⟩
  rw [im, show o.toInt.toNat = 1 from h1, show s'.toInt.toNat = s.toInt.toNat + 1 by omega, show m.toInt + w.toInt = m.toInt + s_PD D (D 4) 2 s.toInt.toNat by omega]
  exact hP
theorem s_MQ_C (hQ : s_MQ g D m.toInt o.toInt.toNat s.toInt.toNat c.toInt.toNat) (H : t_pla g m o s c) (hb : t_Cb D) (hd : s_DB D) (ht : s_tk D) (hm0 : 0 ≤ m.toInt) (hm : m.toInt ≤ 240) (ho0 : 0 ≤ o.toInt) (ho : o.toInt ≤ 1) (hs0 : 0 ≤ s.toInt) (hc0 : 0 ≤ c.toInt) (hmay : t_mayC g m.toInt.toNat o.toInt.toNat c.toInt.toNat) (heq : t_la (g 92) (t_S g) (t_C g) m.toInt.toNat o.toInt.toNat s.toInt.toNat c.toInt.toNat = t_byc g (g 92) m.toInt.toNat s.toInt.toNat c.toInt.toNat) (hw : t_ct g c.toInt.toNat = w.toInt.toNat) (hw0 : 0 ≤ w.toInt) (im : m'.toInt = m.toInt + w.toInt) (is : c'.toInt = c.toInt + 1) (hsp : t_sp g g') (hwho : who.toInt = (g 91 c.toInt.toNat).toInt) (qa : ∀ (L : s_RL) (t : Int × Int × Int), s_P4 g L → (1 : Int) = t.1 → m.toInt = t.2.1 → who.toInt = t.2.2 → s_P4 g' (L ++ [t])) : s_MQ g' D m'.toInt o.toInt.toNat s.toInt.toNat c'.toInt.toNat := by
  obtain ⟨⟨hO, hB⟩, ⟨hpr, hS, hC, ho2, hs2, hc2⟩, em, hL⟩ := s_MQ_h hQ H hb hd hm0 ho0 ho hs0 hc0
  obtain ⟨hT, hW, k, hI⟩ := hQ
  have hy := (s_yC_TP hpr hT hO hS hC ho2 hs2 hc2 (by omega)).mpr ⟨hmay, heq.symm⟩
  rw [em] at hy
  have hP := s_PI_C (S' := fun L => s_P4 g' L ∧ s_jj (s_PD D (D 4)) (m.toInt + s_PD D (D 4) 6 c.toInt.toNat) 0 s.toInt.toNat (c.toInt.toNat + 1) L) hI hO (s_T1_of ht hb) (s_hdC hy.2.1) hB hy (fun L hL _ => ⟨qa L _ hL.1 rfl rfl (hwho.trans (hW.2.2 _ hmay.2.1)), s_jj_C hL.2 hmay.1⟩)
  have h2 := (hT.2.2.1 _ hmay.2.1).2.1
  have h1 := hmay.1
  refine ⟨hT.sp hsp, hW.sp hsp, k + 1, ?_⟩
  rw [im, show o.toInt.toNat = 0 from h1, show c'.toInt.toNat = c.toInt.toNat + 1 by omega, show m.toInt + w.toInt = m.toInt + s_PD D (D 4) 6 c.toInt.toNat by omega]
  exact hP
theorem s_MQ_n (hQ : s_MQ g D m.toInt o.toInt.toNat s.toInt.toNat c.toInt.toNat) (hs0 : 0 ≤ s.toInt) (hc0 : 0 ≤ c.toInt) (hn : s.toInt < (g 69 44).toInt ∨ c.toInt < (g 69 45).toInt) : ¬ s_gn (s_PD D (D 4)) s.toInt.toNat c.toInt.toNat := by
  obtain ⟨hT, -⟩ := hQ
  have h1 := hT.1
  have eS : t_S g = (g 69 44).toInt.toNat := rfl
  have eC : t_C g = (g 69 45).toInt.toNat := rfl
  rintro ⟨a, b⟩
  omega
theorem s_MQ_R (hQ : s_MQ g D m.toInt o.toInt.toNat s.toInt.toNat c.toInt.toNat) (H : t_pla g m o s c) (hb : t_Cb D) (hd : s_DB D) (hm0 : 0 ≤ m.toInt) (hm : m.toInt ≤ 240) (ho0 : 0 ≤ o.toInt) (ho : o.toInt ≤ 1) (hs0 : 0 ≤ s.toInt) (hc0 : 0 ≤ c.toInt) (hn : s.toInt < (g 69 44).toInt ∨ c.toInt < (g 69 45).toInt) (h1 : t_mayS g m.toInt.toNat o.toInt.toNat s.toInt.toNat → ¬ t_la (g 92) (t_S g) (t_C g) m.toInt.toNat o.toInt.toNat s.toInt.toNat c.toInt.toNat = t_bys g (g 92) m.toInt.toNat s.toInt.toNat c.toInt.toNat) (h2 : t_mayC g m.toInt.toNat o.toInt.toNat c.toInt.toNat → ¬ t_la (g 92) (t_S g) (t_C g) m.toInt.toNat o.toInt.toNat s.toInt.toNat c.toInt.toNat = t_byc g (g 92) m.toInt.toNat s.toInt.toNat c.toInt.toNat) (hr : t_la (g 92) (t_S g) (t_C g) (m.toInt.toNat + 1) o.toInt.toNat s.toInt.toNat c.toInt.toNat = t_la (g 92) (t_S g) (t_C g) m.toInt.toNat o.toInt.toNat s.toInt.toNat c.toInt.toNat) (im : m'.toInt = m.toInt + 1) : s_MQ g D m'.toInt o.toInt.toNat s.toInt.toNat c.toInt.toNat := by
  have hg := s_MQ_n hQ hs0 hc0 hn
  obtain ⟨⟨hO, hB⟩, ⟨hpr, hS, hC, ho2, hs2, hc2⟩, em, hL⟩ := s_MQ_h hQ H hb hd hm0 ho0 ho hs0 hc0
  obtain ⟨hT, hW, k, hI⟩ := hQ
  have nS := fun hh => (s_yS_TP hpr hT hO hS hC ho2 hs2 hc2 (m := m.toInt.toNat) (by omega)).mp hh
  have nC := fun hh => (s_yC_TP hpr hT hO hS hC ho2 hs2 hc2 (m := m.toInt.toNat) (by omega)).mp hh
  rw [em] at nS nC
  rw [hL, hL, show ((m.toInt.toNat + 1 : Nat) : Int) = m.toInt + 1 by omega, em] at hr
  refine ⟨hT, hW, k + 1, ?_⟩
  rw [im]
  exact (s_PI_R hI hO hg (fun hh => h1 (nS hh).1 (nS hh).2.symm) (fun hh => h2 (nC hh).1 (nC hh).2.symm) hr).mono (fun L hL => ⟨hL.1, s_jj_R hL.2 hg⟩)
theorem s_MQ_T (hQ : s_MQ g D m.toInt o.toInt.toNat s.toInt.toNat c.toInt.toNat) (H : t_pla g m o s c) (hb : t_Cb D) (hd : s_DB D) (hm0 : 0 ≤ m.toInt) (hm : m.toInt ≤ 240) (ho0 : 0 ≤ o.toInt) (ho : o.toInt ≤ 1) (hs0 : 0 ≤ s.toInt) (hc0 : 0 ≤ c.toInt) (hn : s.toInt < (g 69 44).toInt ∨ c.toInt < (g 69 45).toInt) (h1 : t_mayS g m.toInt.toNat o.toInt.toNat s.toInt.toNat → ¬ t_la (g 92) (t_S g) (t_C g) m.toInt.toNat o.toInt.toNat s.toInt.toNat c.toInt.toNat = t_bys g (g 92) m.toInt.toNat s.toInt.toNat c.toInt.toNat) (h2 : t_mayC g m.toInt.toNat o.toInt.toNat c.toInt.toNat → ¬ t_la (g 92) (t_S g) (t_C g) m.toInt.toNat o.toInt.toNat s.toInt.toNat c.toInt.toNat = t_byc g (g 92) m.toInt.toNat s.toInt.toNat c.toInt.toNat) (hr : ¬ t_la (g 92) (t_S g) (t_C g) (m.toInt.toNat + 1) o.toInt.toNat s.toInt.toNat c.toInt.toNat = t_la (g 92) (t_S g) (t_C g) m.toInt.toNat o.toInt.toNat s.toInt.toNat c.toInt.toNat) (hw : w.toInt = ((t_tt g (g 69 48).toInt m.toInt.toNat : Nat) : Int)) (im : m'.toInt = m.toInt + w.toInt) (io : o'.toInt = 1 - o.toInt) (hsp : t_sp g g') (qa : ∀ (L : s_RL) (t : Int × Int × Int), s_P4 g L → (2 : Int) = t.1 → m.toInt = t.2.1 → (-1 : Int) = t.2.2 → s_P4 g' (L ++ [t])) : s_MQ g' D m'.toInt o'.toInt.toNat s.toInt.toNat c.toInt.toNat := by
  have hg := s_MQ_n hQ hs0 hc0 hn
  obtain ⟨⟨hO, hB⟩, ⟨hpr, hS, hC, ho2, hs2, hc2⟩, em, hL⟩ := s_MQ_h hQ H hb hd hm0 ho0 ho hs0 hc0
  obtain ⟨hT, hW, k, hI⟩ := hQ
  have nS := fun hh => (s_yS_TP hpr hT hO hS hC ho2 hs2 hc2 (m := m.toInt.toNat) (by omega)).mp hh
  have nC := fun hh => (s_yC_TP hpr hT hO hS hC ho2 hs2 hc2 (m := m.toInt.toNat) (by omega)).mp hh
  rw [em] at nS nC
  rw [hL, hL, show ((m.toInt.toNat + 1 : Nat) : Int) = m.toInt + 1 by omega, em] at hr
  have h8 := hT.2.2.2 m.toInt.toNat
  rw [hW.1] at hw
  refine ⟨hT.sp hsp, hW.sp hsp, k + 1, ?_⟩
  rw [im, show o'.toInt.toNat = 1 - o.toInt.toNat by omega, show m.toInt + w.toInt = m.toInt + s_PD D (D 4) 8 m.toInt.toNat by rw [h8, hw]]
  exact s_PI_T hI hO hg hB (fun hh => h1 (nS hh).1 (nS hh).2.symm) (fun hh => h2 (nC hh).1 (nC hh).2.symm) hr (fun L hL _ => ⟨qa L _ hL.1 rfl rfl rfl, s_jj_T hL.2 hg ho2⟩)
theorem s_MQ_E (hQ : s_MQ g D m.toInt o.toInt.toNat s.toInt.toNat c.toInt.toNat) (hs : (g 69 44).toInt ≤ s.toInt) (hc : (g 69 45).toInt ≤ c.toInt) (hs0 : 0 ≤ s.toInt) (hc0 : 0 ≤ c.toInt) (hb : t_Cb D) : s_P4 g (s_PL D) ∧ s_FE D m.toInt ∧ s_FX g D := by
  obtain ⟨hT, hW, k, hI⟩ := hQ
  have h1 := hT.1
  have eS : t_S g = (g 69 44).toInt.toNat := rfl
  have eC : t_C g = (g 69 45).toInt.toNat := rfl
  have hg : s_gn (s_PD D (D 4)) s.toInt.toNat c.toInt.toNat := ⟨by omega, by omega⟩
  have hE := s_PI_E hI hg
  obtain ⟨j1, ⟨j6, j7⟩, j3⟩ := hE.2
  have hsN0 := hI.1.2.1
  have e00 : s_PD D (D 4) 0 0 = (((D 1).toNat : Nat) : Int) := rfl
  have e01 : s_PD D (D 4) 0 1 = (((D 2).toNat : Nat) : Int) := rfl
  refine ⟨hE.1, fun h2 => ?_, ⟨hT, hW⟩, j6.trans (by have := hg.1; omega), j7.trans (by have := hg.2; omega)⟩
  have h2 : (s_kd 2 (s_pl (s_PD D (D 4)) (s_WD D) 241 0 0 0 0)).length % 2 = 1 := h2
  obtain ⟨j4, j5⟩ := j3 hg (j1.symm.trans h2)
  have hsN := hI.1.2.1.1
  have e0 : s_PD D (D 4) 0 0 = (((D 1).toNat : Nat) : Int) := rfl
  have hb1 := hb.2.1
  have hs : s.toInt.toNat = (D 1).toNat := by have := hg.1; omega
  rw [hs] at j4 j5
  exact ⟨by omega, j5⟩
theorem s_MQ_0 {p : Nat → Nat → Int32} (hT : s_TP p (D 4) (s_PD D (D 4))) (hW : s_W3 p D) (hsp : t_sp p g) (hb : t_Cb D) (hd : s_DB D) (h : s_LS (s_PD D (D 4)) 0 0 0 0 < 1000000000) (h0 : (g 69 55).toInt = 0) : s_MQ g D 0 0 0 0 :=
  ⟨hT.sp hsp, hW.sp hsp, 0, s_PI_0 (s_PD_B hb hd ⟨hd.2.2.1.1, hd.2.2.1.2⟩) h ⟨⟨h0, fun k t hk => absurd hk (by intro h2; cases h2)⟩, rfl, ⟨rfl, rfl⟩, fun _ h => absurd h (by decide)⟩⟩
end MQT
