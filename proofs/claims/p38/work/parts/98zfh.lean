/-! ===== printed by riv.py: slack ===== -/
noncomputable def wl_d_canEndWithin : List (Nat × Nat) := [(28, 4), (28, 5)]
noncomputable def Q_d_canEndWithin (gi : Nat → Nat → Int32) (gl : Nat → Nat → Int64) (gr : Nat → Nat → Value) (ar1 : Int32) (ar2 : Int32) (ar3 : Int32) (ar4 : Int32) (ar5 : Int32) : Int32 → (Nat → Nat → Int32) → (Nat → Nat → Int64) → (Nat → Nat → Value) → Prop := fun (v : Int32) (gi2 : Nat → Nat → Int32) (gl2 : Nat → Nat → Int64) (gr2 : Nat → Nat → Value) => ∀ P : Nat → Nat → Int, s_CP P gi gr → s_PB P → s_PO P → 0 ≤ ar1.toInt → ar1.toInt ≤ 2000 → ar3.toInt ≤ P 0 0 → ar4.toInt ≤ P 0 1 → 0 ≤ ar5.toInt → ar5.toInt ≤ 999999999 → (v.toInt = 1 ↔ s_LS P ar1.toInt ar2.toNatClampNeg ar3.toNatClampNeg ar4.toNatClampNeg ≤ ar5.toInt)
theorem c_d_canEndWithin {X : x_Ext} {d : Nat} {sh : List (Nat ⊕ (Nat × Nat))} {gi : Nat → Nat → Int32} {gl : Nat → Nat → Int64} {gr : Nat → Nat → Value} (hI : t_I sh gi gr) (ar1 : Int32) (ar2 : Int32) (l_a2 : 0 ≤ ar2.toInt) (u_a2 : ar2.toInt ≤ 1) (ar3 : Int32) (l_a3 : 0 ≤ ar3.toInt) (u_a3 : ar3.toInt ≤ 6) (ar4 : Int32) (l_a4 : 0 ≤ ar4.toInt) (u_a4 : ar4.toInt ≤ 6) (ar5 : Int32) : x_Me X (d + 17) n_X1_canEndWithin [.ref 28, .int ar1, .int ar2, .int ar3, .int ar4, .int ar5] (sh, gi, gl, gr) (t_PI wl_d_canEndWithin sh gi gl gr 0 1 (Q_d_canEndWithin gi gl gr ar1 ar2 ar3 ar4 ar5)) := by
  have hX : t_X wl_d_canEndWithin sh gi gl gr gi gl gr := t_X.rf
  refine me_i f_X1_canEndWithin (hI.wf.s rfl) rfl rfl rfl ?_
  refine ev_loc f_X1_canEndWithin (nx := 1) rfl rfl rfl rfl ?_
  refine ev_loc f_X1_canEndWithin (nx := 3) rfl rfl rfl rfl ?_
  refine ev_ic f_X1_canEndWithin (nx := 4) (v := 1) rfl (by decide) rfl ?_
  refine ev_anyIE f_X1_canEndWithin (nx := 5) rfl rfl rfl rfl (fun z1 e1 => ?_)
  refine ev_putIT f_X1_canEndWithin (nx := 8) rfl (hI.wf.s rfl) rfl rfl rfl (hI.put0 (hI.wf.s rfl) rfl rfl) (hX.upI rfl) (fun g2 e2 hI hX => ?_)
  refine ev_loc f_X1_canEndWithin (nx := 9) rfl rfl rfl rfl ?_
  refine ev_loc f_X1_canEndWithin (nx := 11) rfl rfl rfl rfl ?_
  refine ev_putIT f_X1_canEndWithin (nx := 14) rfl (hI.wf.s rfl) rfl rfl rfl (hI.put0 (hI.wf.s rfl) rfl rfl) (hX.upI rfl) (fun g3 e3 hI hX => ?_)
  refine ev_loc f_X1_canEndWithin (nx := 15) rfl rfl rfl rfl ?_
  have hXh := hX
  refine ev_loc f_X1_canEndWithin (nx := 16) rfl rfl rfl rfl ?_
  refine ev_loc f_X1_canEndWithin (nx := 17) rfl rfl rfl rfl ?_
  refine ev_loc f_X1_canEndWithin (nx := 18) rfl rfl rfl rfl ?_
  refine ev_loc f_X1_canEndWithin (nx := 20) rfl rfl rfl rfl ?_
  refine ev_ic f_X1_canEndWithin (nx := 21) (v := 0) rfl (by decide) rfl ?_
  refine ev_qN f_X1_canEndWithin (nx := 24) (r := []) rfl rfl rfl rfl rfl rfl rfl (c_d_search hI (ar1) (ar2) l_a2 u_a2 (ar3) l_a3 u_a3 (ar4) l_a4 u_a4 (0)) rfl hX rfl (fun gi4 gl4 gr4 hI hX hC4 q4 => ?_)
  have ff5 : (g3 28 4).toInt = z1.toInt := congrArg Int32.toInt ((by rw [e3]; exact x_up2_off (Or.inr (by decide)) : g3 28 4 = g2 28 4).trans (by rw [e2]; exact x_up2_at _ _ _ _ : g2 28 4 = z1))
  have ff6 : (g3 28 5).toInt = ar5.toInt := congrArg Int32.toInt (by rw [e3]; exact x_up2_at _ _ _ _ : g3 28 5 = ar5)
  have q4 : ∀ P : Nat → Nat → Int, s_CP P g3 gr → s_PB P → s_PO P → 0 ≤ ar1.toInt → ar1.toInt ≤ 2000 → ar3.toInt ≤ P 0 0 → ar4.toInt ≤ P 0 1 → 0 ≤ (0 : Int) → (0 : Int) ≤ 240000 * (ar3.toInt + ar4.toInt) → (g3 28 4).toInt ≤ 1000000000 → s_BB (g3 28 4).toInt (g3 28 5).toInt ((0 : Int) + s_LS P ar1.toInt ar2.toNatClampNeg ar3.toNatClampNeg ar4.toNatClampNeg) (gi4 28 4).toInt := q4
  refine ev_loc f_X1_canEndWithin (nx := 25) rfl rfl rfl rfl ?_
  refine ev_getI f_X1_canEndWithin (nx := 28) rfl (hI.wf.s rfl) rfl rfl rfl ?_
  refine ev_loc f_X1_canEndWithin (nx := 30) rfl rfl rfl rfl ?_
  refine ev_if f_X1_canEndWithin (t1 := 37) (t2 := 33) rfl rfl rfl (fun h7 => ?_) (fun h7 => ?_)
  · have r8 : ar5.toInt < (gi4 28 4).toInt := Int32.lt_iff_toInt_lt.mp h7
    have u9 : ar5.toInt ≤ 2147483646 := t_ltu h7 (t_hi (gi4 28 4)) rfl
    have l10 : (-2147483647) ≤ (gi4 28 4).toInt := t_ltl h7 (t_lo ar5) rfl
    refine ev_ic f_X1_canEndWithin (nx := 38) (v := 0) rfl (by decide) rfl ?_
    exact ev_ret f_X1_canEndWithin rfl rfl rfl ⟨_, _, _, rfl, hI, hX, ⟨_, rfl, (by decide : (0:Int) ≤ (0:Int32).toInt), (Int.le_trans (by decide : (0:Int32).toInt ≤ (0:Int)) (by decide : (0:Int) ≤ 1)), (show ∀ P : Nat → Nat → Int, s_CP P gi gr → s_PB P → s_PO P → 0 ≤ ar1.toInt → ar1.toInt ≤ 2000 → ar3.toInt ≤ P 0 0 → ar4.toInt ≤ P 0 1 → 0 ≤ ar5.toInt → ar5.toInt ≤ 999999999 → ((0 : Int) = 1 ↔ s_LS P ar1.toInt ar2.toNatClampNeg ar3.toNatClampNeg ar4.toNatClampNeg ≤ ar5.toInt) from (by
                                                            intro P hc hb hp h1 h2 h3 h4 h5 h6
                                                            have hc2 := hc.fr hXh rfl rfl
                                                            have k1 : (1 : Int32).toInt = 1 := rfl
                                                            have hz : z1.toInt = ar5.toInt + 1 := s_add e1 rfl rfl (by omega)
                                                            have h7 : (g3 28 4).toInt = ar5.toInt + 1 := by rw [e3, x_up2_off (Or.inr (by decide)), e2, x_up2_at]; exact hz
                                                            have h8 : (g3 28 5).toInt = ar5.toInt := by rw [e3, x_up2_at]
                                                            have hq := q4 P hc2 hb hp h1 h2 h3 h4 (by decide) (by omega) (by rw [h7]; omega)
                                                            rw [h7, h8, Int.zero_add] at hq
                                                            have hle := s_BB_le hq
                                                            constructor
                                                            · intro h; exact hle.mp (by omega)
                                                            · intro h; have h9 := hle.mpr h; omega))⟩⟩
  · have r11 : (gi4 28 4).toInt ≤ ar5.toInt := Int32.le_iff_toInt_le.mp (t_nlt h7)
    refine ev_ic f_X1_canEndWithin (nx := 34) (v := 1) rfl (by decide) rfl ?_
    refine ev_jmp f_X1_canEndWithin (nx := 38) rfl rfl rfl ?_
    exact ev_ret f_X1_canEndWithin rfl rfl rfl ⟨_, _, _, rfl, hI, hX, ⟨_, rfl, (Int.le_trans (by decide : (0:Int) ≤ 1) (by decide : (1:Int) ≤ (1:Int32).toInt)), (by decide : (1:Int32).toInt ≤ (1:Int)), (show ∀ P : Nat → Nat → Int, s_CP P gi gr → s_PB P → s_PO P → 0 ≤ ar1.toInt → ar1.toInt ≤ 2000 → ar3.toInt ≤ P 0 0 → ar4.toInt ≤ P 0 1 → 0 ≤ ar5.toInt → ar5.toInt ≤ 999999999 → ((1 : Int) = 1 ↔ s_LS P ar1.toInt ar2.toNatClampNeg ar3.toNatClampNeg ar4.toNatClampNeg ≤ ar5.toInt) from (by
                                                            intro P hc hb hp h1 h2 h3 h4 h5 h6
                                                            have hc2 := hc.fr hXh rfl rfl
                                                            have k1 : (1 : Int32).toInt = 1 := rfl
                                                            have hz : z1.toInt = ar5.toInt + 1 := s_add e1 rfl rfl (by omega)
                                                            have h7 : (g3 28 4).toInt = ar5.toInt + 1 := by rw [e3, x_up2_off (Or.inr (by decide)), e2, x_up2_at]; exact hz
                                                            have h8 : (g3 28 5).toInt = ar5.toInt := by rw [e3, x_up2_at]
                                                            have hq := q4 P hc2 hb hp h1 h2 h3 h4 (by decide) (by omega) (by rw [h7]; omega)
                                                            rw [h7, h8, Int.zero_add] at hq
                                                            have hle := s_BB_le hq
                                                            constructor
                                                            · intro h; exact hle.mp (by omega)
                                                            · intro h; have h9 := hle.mpr h; omega))⟩⟩
noncomputable def wl_d_slack : List (Nat × Nat) := [(0, 0), (28, 0), (28, 1), (28, 4), (28, 5), (29, 0), (30, 9999), (31, 9999), (32, 9999), (33, 9999), (34, 9999), (35, 0), (36, 9999), (37, 9999), (38, 9999), (39, 9999), (40, 9999)]
noncomputable def Q_d_slack (gi : Nat → Nat → Int32) (gl : Nat → Nat → Int64) (gr : Nat → Nat → Value) (ar1 : Int32) : Int32 → (Nat → Nat → Int32) → (Nat → Nat → Int64) → (Nat → Nat → Value) → Prop := fun (v : Int32) (gi2 : Nat → Nat → Int32) (gl2 : Nat → Nat → Int64) (gr2 : Nat → Nat → Value) => ∀ (u : Nat) (D : s_D), gr 0 6 = .ref u → t_VL gr u → t_CV gi gl u D → t_Cb D → (u = 3 ∨ 102 ≤ u) → (∀ s : Nat, (s : Int) < D 1 → 0 ≤ D (56 + 5 * s) ∧ D (56 + 5 * s) ≤ 1) → s_DB D → ((0 ≤ ar1.toInt ∧ ar1.toInt < D 1 ∧ (s_LS (s_PD D (D 4)) 0 0 0 0) < 1000000000) → v.toInt = ((s_lg (s_sf D ar1.toInt) (s_LS (s_PD D (D 4)) 0 0 0 0) 60 : Nat) : Int)) ∧ (¬ (0 ≤ ar1.toInt ∧ ar1.toInt < D 1 ∧ (s_LS (s_PD D (D 4)) 0 0 0 0) < 1000000000) → v.toInt = -1)
theorem c_d_slack {X : x_Ext} {d : Nat} {sh : List (Nat ⊕ (Nat × Nat))} {gi : Nat → Nat → Int32} {gl : Nat → Nat → Int64} {gr : Nat → Nat → Value} (hI : t_I sh gi gr) (ar1 : Int32) : x_Me X (d + 19) n_X11_slack [.ref 0, .int ar1] (sh, gi, gl, gr) (t_PI wl_d_slack sh gi gl gr (-1) 60 (Q_d_slack gi gl gr ar1)) := by
  have hX : t_X wl_d_slack sh gi gl gr gi gl gr := t_X.rf
  refine me_i f_X11_slack (hI.wf.s rfl) rfl rfl rfl ?_
  refine ev_loc f_X11_slack (nx := 1) rfl rfl rfl rfl ?_
  refine ev_loc f_X11_slack (nx := 2) rfl rfl rfl rfl ?_
  refine ev_inV2 f_X11_slack (nx := 5) (lo2 := [(0, .ref 0), (1, .int ar1)]) rfl rfl rfl rfl f_X11_isShip (hI.wf.s rfl) rfl rfl rfl rfl rfl ?_
  refine ev_loc f_X11_isShip (nx := 1) rfl rfl rfl rfl ?_
  refine ev_if f_X11_isShip (t1 := 22) (t2 := 4) rfl rfl rfl (fun h1 => ?_) (fun h1 => ?_)
  · have u2 : ar1.toInt ≤ (-1) := t_ltu h1 (by decide : (0:Int32).toInt ≤ (0:Int)) rfl
    refine ev_ic f_X11_isShip (nx := 23) (v := 0) rfl (by decide) rfl ?_
    refine ev_retK1 f_X11_isShip rfl rfl rfl ?_
    refine ev_t f_X11_slack (t1 := 8) (t2 := 14) rfl rfl rfl (by decide) ?_
    refine ev_loc f_X11_slack (nx := 9) rfl rfl rfl rfl ?_
    refine ev_ic f_X11_slack (nx := 10) (v := 1) rfl (by decide) rfl ?_
    refine ev_inV2 f_X11_slack (nx := 13) (lo2 := [(0, .ref 0), (1, .int 1)]) rfl rfl rfl rfl f_X11_refuse (hI.wf.s rfl) rfl rfl rfl rfl rfl ?_
    refine ev_loc f_X11_refuse (nx := 1) rfl rfl rfl rfl ?_
    refine ev_loc f_X11_refuse (nx := 2) rfl rfl rfl rfl ?_
    refine ev_putIT f_X11_refuse (nx := 5) rfl (hI.wf.s rfl) rfl rfl rfl (hI.put0 (hI.wf.s rfl) rfl rfl) (hX.upI rfl) (fun g3 e3 hI hX => ?_)
    refine ev_ic f_X11_refuse (nx := 6) (v := -1) rfl (by decide) rfl ?_
    refine ev_retK1 f_X11_refuse rfl rfl rfl ?_
    exact ev_ret f_X11_slack rfl rfl rfl ⟨_, _, _, rfl, hI, hX, ⟨_, rfl, (by decide : ((-1):Int) ≤ ((-1):Int32).toInt), (Int.le_trans (by decide : ((-1):Int32).toInt ≤ ((-1):Int)) (by decide : ((-1):Int) ≤ 60)), (show ∀ (u : Nat) (D : s_D), gr 0 6 = .ref u → t_VL gr u → t_CV gi gl u D → t_Cb D → (u = 3 ∨ 102 ≤ u) → (∀ s : Nat, (s : Int) < D 1 → 0 ≤ D (56 + 5 * s) ∧ D (56 + 5 * s) ≤ 1) → s_DB D → ((0 ≤ ar1.toInt ∧ ar1.toInt < D 1 ∧ (s_LS (s_PD D (D 4)) 0 0 0 0) < 1000000000) → ((-1) : Int) = ((s_lg (s_sf D ar1.toInt) (s_LS (s_PD D (D 4)) 0 0 0 0) 60 : Nat) : Int)) ∧ (¬ (0 ≤ ar1.toInt ∧ ar1.toInt < D 1 ∧ (s_LS (s_PD D (D 4)) 0 0 0 0) < 1000000000) → ((-1) : Int) = -1) from (by
                                                            intro u D hu hl hc hb hv hsl hd
                                                            have hL := hc.2.2.1.1
                                                            exact ⟨fun h => absurd (And.intro h.1 h.2.1) (by omega), fun _ => rfl⟩))⟩⟩
  · have l4 : 0 ≤ ar1.toInt := t_lel (t_nlt h1) (by decide : (0:Int) ≤ (0:Int32).toInt)
    refine ev_loc f_X11_isShip (nx := 5) rfl rfl rfl rfl ?_
    refine ev_loc f_X11_isShip (nx := 6) rfl rfl rfl rfl ?_
    obtain ⟨a5, e5, p5⟩ := hI.2.2.2.1.1
    refine ev_getR f_X11_isShip (nx := 9) rfl (hI.wf.s rfl) rfl rfl e5 rfl rfl ?_
    obtain ⟨a6, e6, p6⟩ := p5.2.2.2.2.1
    refine ev_getR f_X11_isShip (nx := 12) rfl p5.1 rfl rfl e6 rfl rfl ?_
    refine ev_getI f_X11_isShip (nx := 15) rfl p6.1 rfl rfl rfl ?_
    obtain ⟨l7, u7⟩ := hI.b p6.1 (t_bdK rfl : t_bd 3 0 = some (0, 6))
    refine ev_if f_X11_isShip (t1 := 22) (t2 := 18) rfl rfl rfl (fun h8 => ?_) (fun h8 => ?_)
    · have r9 : (gi a6 0).toInt ≤ ar1.toInt := Int32.le_iff_toInt_le.mp h8
      refine ev_ic f_X11_isShip (nx := 23) (v := 0) rfl (by decide) rfl ?_
      refine ev_retK1 f_X11_isShip rfl rfl rfl ?_
      refine ev_t f_X11_slack (t1 := 8) (t2 := 14) rfl rfl rfl (by decide) ?_
      refine ev_loc f_X11_slack (nx := 9) rfl rfl rfl rfl ?_
      refine ev_ic f_X11_slack (nx := 10) (v := 1) rfl (by decide) rfl ?_
      refine ev_inV2 f_X11_slack (nx := 13) (lo2 := [(0, .ref 0), (1, .int 1)]) rfl rfl rfl rfl f_X11_refuse (hI.wf.s rfl) rfl rfl rfl rfl rfl ?_
      refine ev_loc f_X11_refuse (nx := 1) rfl rfl rfl rfl ?_
      refine ev_loc f_X11_refuse (nx := 2) rfl rfl rfl rfl ?_
      refine ev_putIT f_X11_refuse (nx := 5) rfl (hI.wf.s rfl) rfl rfl rfl (hI.put0 (hI.wf.s rfl) rfl rfl) (hX.upI rfl) (fun g10 e10 hI hX => ?_)
      refine ev_ic f_X11_refuse (nx := 6) (v := -1) rfl (by decide) rfl ?_
      refine ev_retK1 f_X11_refuse rfl rfl rfl ?_
      exact ev_ret f_X11_slack rfl rfl rfl ⟨_, _, _, rfl, hI, hX, ⟨_, rfl, (by decide : ((-1):Int) ≤ ((-1):Int32).toInt), (Int.le_trans (by decide : ((-1):Int32).toInt ≤ ((-1):Int)) (by decide : ((-1):Int) ≤ 60)), (show ∀ (u : Nat) (D : s_D), gr 0 6 = .ref u → t_VL gr u → t_CV gi gl u D → t_Cb D → (u = 3 ∨ 102 ≤ u) → (∀ s : Nat, (s : Int) < D 1 → 0 ≤ D (56 + 5 * s) ∧ D (56 + 5 * s) ≤ 1) → s_DB D → ((0 ≤ ar1.toInt ∧ ar1.toInt < D 1 ∧ (s_LS (s_PD D (D 4)) 0 0 0 0) < 1000000000) → ((-1) : Int) = ((s_lg (s_sf D ar1.toInt) (s_LS (s_PD D (D 4)) 0 0 0 0) 60 : Nat) : Int)) ∧ (¬ (0 ≤ ar1.toInt ∧ ar1.toInt < D 1 ∧ (s_LS (s_PD D (D 4)) 0 0 0 0) < 1000000000) → ((-1) : Int) = -1) from (by
                                                            intro u D hu hl hc hb hv hsl hd
                                                            have ha : a5 = u := Value.ref.inj (e5.symm.trans hu)
                                                            subst ha
                                                            have hb1 : (a5 + 3) = a6 := Value.ref.inj ((hl.1.2.2.2.1).symm.trans e6)
                                                            subst hb1
                                                            have hL := hc.2.2.1.1
                                                            exact ⟨fun h => absurd (And.intro h.1 h.2.1) (by omega), fun _ => rfl⟩))⟩⟩
    · have r11 : ar1.toInt < (gi a6 0).toInt := Int32.lt_iff_toInt_lt.mp (t_nle h8)
      have u12 : ar1.toInt ≤ 5 := t_ltu (t_nle h8) u7 rfl
      have l13 : 1 ≤ (gi a6 0).toInt := t_ltl (t_nle h8) l4 rfl
      refine ev_ic f_X11_isShip (nx := 19) (v := 1) rfl (by decide) rfl ?_
      refine ev_jmp f_X11_isShip (nx := 23) rfl rfl rfl ?_
      refine ev_retK1 f_X11_isShip rfl rfl rfl ?_
      refine ev_f f_X11_slack (t1 := 8) (t2 := 14) rfl rfl rfl (by decide) ?_
      refine ev_loc f_X11_slack (nx := 15) rfl rfl rfl rfl ?_
      refine ev_inV1 f_X11_slack (nx := 18) (lo2 := [(0, .ref 0)]) rfl rfl rfl rfl f_X11_leastAsTold (hI.wf.s rfl) rfl rfl rfl rfl rfl ?_
      refine ev_loc f_X11_leastAsTold (nx := 1) rfl rfl rfl rfl ?_
      refine ev_getR f_X11_leastAsTold (nx := 4) rfl (hI.wf.s rfl) rfl rfl (hI.wf.r rfl) rfl rfl ?_
      refine ev_loc f_X11_leastAsTold (nx := 5) rfl rfl rfl rfl ?_
      refine ev_getR f_X11_leastAsTold (nx := 8) (v := .ref a5) rfl (hI.wf.s rfl) rfl rfl e5 rfl rfl ?_
      refine ev_qN f_X11_leastAsTold (nx := 11) (r := []) rfl rfl rfl rfl rfl rfl rfl (c_d_takeAll hI (a5) p5) rfl hX rfl (fun gi14 gl14 gr14 hI hX hC14 q14 => ?_)
      have q14 : ∀ D : s_D, t_VL gr a5 → t_CV gi gl a5 D → (a5 = 3 ∨ 102 ≤ a5) → t_Cb D → (∀ s : Nat, (s : Int) < D 1 → 0 ≤ D (56 + 5 * s) ∧ D (56 + 5 * s) ≤ 1) → s_CP (s_PD D (D 4)) gi14 gr14 ∧ gr14 28 0 = .ref a5 ∧ t_CV gi14 gl14 a5 D ∧ (gi14 28 1).toInt = D 4 := q14
      replace p5 := p5.ext hC14.2
      replace p6 := p6.ext hC14.2
      refine ev_loc f_X11_leastAsTold (nx := 12) rfl rfl rfl rfl ?_
      refine ev_getR f_X11_leastAsTold (nx := 15) rfl (hI.wf.s rfl) rfl rfl (hI.wf.r rfl) rfl rfl ?_
      refine ev_qI f_X11_leastAsTold (nx := 18) (r := []) rfl rfl rfl rfl rfl rfl rfl (c_d_leastWaits hI ) rfl hX rfl (fun w15 gi15 gl15 gr15 l15 u15 hI hX hC15 q15 => ?_)
      have q15 : ∀ P : Nat → Nat → Int, s_CP P gi14 gr14 → s_PB P → s_PO P → w15.toInt = s_LS P 0 0 0 0 := q15
      replace p5 := p5.ext hC15.2
      replace p6 := p6.ext hC15.2
      refine ev_retK1 f_X11_leastAsTold rfl rfl rfl ?_
      refine ev_loc f_X11_slack (nx := 19) (lo' := [(2, .int w15), (0, .ref 0), (1, .int ar1)]) rfl rfl rfl rfl ?_
      refine ev_loc f_X11_slack (nx := 20) rfl rfl rfl rfl ?_
      refine ev_ldW f_X11_slack (nx := 23) (v := 1000000000) rfl (by decide) rfl ?_
      refine ev_if f_X11_slack (t1 := 33) (t2 := 26) rfl rfl rfl (fun h16 => ?_) (fun h16 => ?_)
      · have u17 : w15.toInt ≤ 999999999 := t_ltu h16 (by decide : (1000000000:Int32).toInt ≤ (1000000000:Int)) rfl
        refine ev_bp f_X11_slack (nx := 35) (v := 60) rfl (by decide) rfl ?_
        refine ev_loc f_X11_slack (nx := 36) (lo' := [(3, .int 60), (2, .int w15), (0, .ref 0), (1, .int ar1)]) rfl rfl rfl rfl ?_
        have L18 : ∀ (m18 : Nat) (gi18 : Nat → Nat → Int32) (gl18 : Nat → Nat → Int64) (gr18 : Nat → Nat → Value) (y18_3 : Int32), t_I sh gi18 gr18 → t_X wl_d_slack sh gi gl gr gi18 gl18 gr18 → t_Rv sh gr18 a5 → t_Ln sh gr18 a6 → 0 ≤ y18_3.toInt → y18_3.toInt ≤ 60 → gr18 a5 7 = .ref a6 → gr18 0 6 = .ref a5 → (∀ (u : Nat) (D : s_D), gr 0 6 = .ref u → t_VL gr u → t_CV gi gl u D → t_Cb D → (u = 3 ∨ 102 ≤ u) → (∀ s : Nat, (s : Int) < D 1 → 0 ≤ D (56 + 5 * s) ∧ D (56 + 5 * s) ≤ 1) → s_DB D → s_KP D u gi18 gr18 ∧ w15.toInt = (s_LS (s_PD D (D 4)) 0 0 0 0) ∧ ((s_lg (s_sf D ar1.toInt) (s_LS (s_PD D (D 4)) 0 0 0 0) 60 : Nat) : Int) = ((s_lg (s_sf D ar1.toInt) (s_LS (s_PD D (D 4)) 0 0 0 0) y18_3.toNatClampNeg : Nat) : Int) ∧ 0 ≤ ar1.toInt ∧ ar1.toInt < D 1) → (y18_3.toInt - 0).toNat = m18 → x_Ev X (d + 19) n_X11_slack 36 [(3, .int y18_3), (2, .int w15), (0, .ref 0), (1, .int ar1)] [] (sh, gi18, gl18, gr18) (t_PI wl_d_slack sh gi gl gr (-1) 60 (Q_d_slack gi gl gr ar1)) := by
          intro m18
          induction m18 using Nat.strongRecOn with
          | _ m18 ih18 =>
          intro gi18 gl18 gr18 y18_3 hI hX p5 p6 l18_3 u18_3 c18_0 c18_1 j18_0 hm18
          refine ev_loc f_X11_slack (nx := 37) rfl rfl rfl rfl ?_
          have hXh := hX
          refine ev_if f_X11_slack (t1 := 77) (t2 := 40) rfl rfl rfl (fun h19 => ?_) (fun h19 => ?_)
          · have u20 : y18_3.toInt ≤ 0 := t_leu h19 (by decide : (0:Int32).toInt ≤ (0:Int))
            refine ev_loc f_X11_slack (nx := 78) rfl rfl rfl rfl ?_
            refine ev_ic f_X11_slack (nx := 79) (v := 0) rfl (by decide) rfl ?_
            refine ev_inV2 f_X11_slack (nx := 82) (lo2 := [(0, .ref 0), (1, .int 0)]) rfl rfl rfl rfl f_X11_answer (hI.wf.s rfl) rfl rfl rfl rfl rfl ?_
            refine ev_loc f_X11_answer (nx := 1) rfl rfl rfl rfl ?_
            refine ev_ic f_X11_answer (nx := 2) (v := 0) rfl (by decide) rfl ?_
            refine ev_putIT f_X11_answer (nx := 5) rfl (hI.wf.s rfl) rfl rfl rfl (hI.put0 (hI.wf.s rfl) rfl rfl) (hX.upI rfl) (fun g21 e21 hI hX => ?_)
            refine ev_loc f_X11_answer (nx := 6) rfl rfl rfl rfl ?_
            refine ev_retK1 f_X11_answer rfl rfl rfl ?_
            exact ev_ret f_X11_slack rfl rfl rfl ⟨_, _, _, rfl, hI, hX, ⟨_, rfl, (Int.le_trans (by decide : ((-1):Int) ≤ 0) (by decide : (0:Int) ≤ (0:Int32).toInt)), (Int.le_trans (by decide : (0:Int32).toInt ≤ (0:Int)) (by decide : (0:Int) ≤ 60)), (show ∀ (u : Nat) (D : s_D), gr 0 6 = .ref u → t_VL gr u → t_CV gi gl u D → t_Cb D → (u = 3 ∨ 102 ≤ u) → (∀ s : Nat, (s : Int) < D 1 → 0 ≤ D (56 + 5 * s) ∧ D (56 + 5 * s) ≤ 1) → s_DB D → ((0 ≤ ar1.toInt ∧ ar1.toInt < D 1 ∧ (s_LS (s_PD D (D 4)) 0 0 0 0) < 1000000000) → (0 : Int) = ((s_lg (s_sf D ar1.toInt) (s_LS (s_PD D (D 4)) 0 0 0 0) 60 : Nat) : Int)) ∧ (¬ (0 ≤ ar1.toInt ∧ ar1.toInt < D 1 ∧ (s_LS (s_PD D (D 4)) 0 0 0 0) < 1000000000) → (0 : Int) = -1) from (by
                                                            intro u D hu hl hc hb hv hsl hd
                                                            obtain ⟨g1, g2, g3, g4, g5⟩ := j18_0 u D hu hl hc hb hv hsl hd
                                                            have hr := s_lg_0 g3 (by omega) (by omega)
                                                            exact ⟨fun _ => hr.symm, fun h => absurd (show _ from ⟨g4, g5, by omega⟩) h⟩))⟩⟩
          · have l22 : 1 ≤ y18_3.toInt := t_ltl (t_nle h19) (by decide : (0:Int) ≤ (0:Int32).toInt) rfl
            refine ev_loc f_X11_slack (nx := 41) rfl rfl rfl rfl ?_
            refine ev_getR f_X11_slack (nx := 44) rfl (hI.wf.s rfl) rfl rfl (hI.wf.r rfl) rfl rfl ?_
            refine ev_loc f_X11_slack (nx := 45) rfl rfl rfl rfl ?_
            refine ev_getR f_X11_slack (nx := 48) (v := .ref a5) rfl (hI.wf.s rfl) rfl rfl c18_1 rfl rfl ?_
            refine ev_ic f_X11_slack (nx := 49) (v := 0) rfl (by decide) rfl ?_
            refine ev_loc f_X11_slack (nx := 50) rfl rfl rfl rfl ?_
            refine ev_loc f_X11_slack (nx := 51) rfl rfl rfl rfl ?_
            refine ev_qN f_X11_slack (nx := 54) (r := []) rfl rfl rfl rfl rfl rfl rfl (c_d_takeShipsG hI (a5) p5 (0) (ar1) (y18_3) (Int.le_trans (by decide : (0:Int) ≤ 1) l22) (Int.le_trans u18_3 (by decide : (60:Int) ≤ 500))) rfl hX rfl (fun gi23 gl23 gr23 hI hX hC23 q23 => ?_)
            have q23 : ∀ D : s_D, t_VL gr18 a5 → t_CV gi18 gl18 a5 D → (a5 = 3 ∨ 102 ≤ a5) → t_Cb D → s_DB D → (∀ s : Nat, (s : Int) < D 1 → 0 ≤ D (56 + 5 * s) ∧ D (56 + 5 * s) ≤ 1) → (gi23 29 0).toInt = ((s_fn (s_mk (0 : Int32)) (D 1).toNat : Nat) : Int) ∧ s_RF (s_ff (s_Al (s_A D) ar1.toInt y18_3.toInt) (s_mk (0 : Int32)) (D 1).toNat) (fun k => (k : Int)) (gi23 30) (s_fn (s_mk (0 : Int32)) (D 1).toNat) ∧ s_RF (s_ff (s_Al (s_A D) ar1.toInt y18_3.toInt) (s_mk (0 : Int32)) (D 1).toNat) (s_Al (s_A D) ar1.toInt y18_3.toInt) (gi23 31) (s_fn (s_mk (0 : Int32)) (D 1).toNat) ∧ s_RF (s_ff (s_Al (s_A D) ar1.toInt y18_3.toInt) (s_mk (0 : Int32)) (D 1).toNat) (fun k => D (54 + 5 * k)) (gi23 32) (s_fn (s_mk (0 : Int32)) (D 1).toNat) ∧ s_RF (s_ff (s_Al (s_A D) ar1.toInt y18_3.toInt) (s_mk (0 : Int32)) (D 1).toNat) (fun k => D (55 + 5 * k)) (gi23 33) (s_fn (s_mk (0 : Int32)) (D 1).toNat) ∧ s_RF (s_ff (s_Al (s_A D) ar1.toInt y18_3.toInt) (s_mk (0 : Int32)) (D 1).toNat) (fun k => D (56 + 5 * k)) (gi23 34) (s_fn (s_mk (0 : Int32)) (D 1).toNat) := q23
            replace p6 := p6.ext hC23.2
            replace p5 := p5.ext hC23.2
            refine ev_loc f_X11_slack (nx := 55) rfl rfl rfl rfl ?_
            have hXi := hX
            refine ev_getR f_X11_slack (nx := 58) rfl (hI.wf.s rfl) rfl rfl (hI.wf.r rfl) rfl rfl ?_
            refine ev_loc f_X11_slack (nx := 59) rfl rfl rfl rfl ?_
            refine ev_inV2 f_X11_slack (nx := 62) (lo2 := [(0, .ref 28), (1, .int w15)]) rfl rfl rfl rfl f_X1_canPassWithin (hI.wf.s rfl) rfl rfl rfl rfl rfl ?_
            refine ev_loc f_X1_canPassWithin (nx := 1) rfl rfl rfl rfl ?_
            refine ev_ic f_X1_canPassWithin (nx := 2) (v := 0) rfl (by decide) rfl ?_
            refine ev_ic f_X1_canPassWithin (nx := 3) (v := 0) rfl (by decide) rfl ?_
            refine ev_ic f_X1_canPassWithin (nx := 4) (v := 0) rfl (by decide) rfl ?_
            refine ev_ic f_X1_canPassWithin (nx := 5) (v := 0) rfl (by decide) rfl ?_
            refine ev_loc f_X1_canPassWithin (nx := 6) rfl rfl rfl rfl ?_
            refine ev_qI f_X1_canPassWithin (nx := 9) (r := []) rfl rfl rfl rfl rfl rfl rfl (c_d_canEndWithin hI (0) (0) (by decide : (0:Int) ≤ (0:Int32).toInt) (Int.le_trans (by decide : (0:Int32).toInt ≤ (0:Int)) (by decide : (0:Int) ≤ 1)) (0) (by decide : (0:Int) ≤ (0:Int32).toInt) (Int.le_trans (by decide : (0:Int32).toInt ≤ (0:Int)) (by decide : (0:Int) ≤ 6)) (0) (by decide : (0:Int) ≤ (0:Int32).toInt) (Int.le_trans (by decide : (0:Int32).toInt ≤ (0:Int)) (by decide : (0:Int) ≤ 6)) (w15)) rfl hX rfl (fun w24 gi24 gl24 gr24 l24 u24 hI hX hC24 q24 => ?_)
            have q24 : ∀ P : Nat → Nat → Int, s_CP P gi23 gr23 → s_PB P → s_PO P → 0 ≤ (0 : Int) → (0 : Int) ≤ 2000 → (0 : Int) ≤ P 0 0 → (0 : Int) ≤ P 0 1 → 0 ≤ w15.toInt → w15.toInt ≤ 999999999 → (w24.toInt = 1 ↔ s_LS P (0 : Int) (0 : Int32).toNatClampNeg (0 : Int32).toNatClampNeg (0 : Int32).toNatClampNeg ≤ w15.toInt) := q24
            replace p6 := p6.ext hC24.2
            replace p5 := p5.ext hC24.2
            refine ev_retK1 f_X1_canPassWithin rfl rfl (t_rz l24 u24) ?_
            refine ev_if f_X11_slack (t1 := 71) (t2 := 65) rfl rfl rfl (fun h25 => ?_) (fun h25 => ?_)
            · have u26 : w24.toInt ≤ 0 := t_equ h25 (by decide : (0:Int32).toInt ≤ (0:Int))
              refine ev_incR f_X11_slack (nx := 74) (c := (-1)) (l := 0) (u := 59) rfl rfl (by decide) (by decide) l22 u18_3 rfl rfl (by decide) (by decide) rfl (fun z27 e27 l27 u27 => ?_)
              refine ev_jmp f_X11_slack (nx := 36) rfl rfl rfl ?_
              refine ev_sub (lo := [(3, .int z27), (2, .int w15), (0, .ref 0), (1, .int ar1)]) rfl (t_sc rfl (t_sc rfl (t_sc rfl (t_sc rfl t_sn)))) ?_
              exact ih18 _ (by omega) gi24 gl24 gr24 (z27) hI hX p5 p6 l27 (Int.le_trans u27 (by decide : (59:Int) ≤ 60)) ((hC24.1 a5 7 (t_ninO hI.wf p5.1 (t_outO hI.wf p5.1 rfl) rfl)).2.2.trans ((hC23.1 a5 7 (t_ninO hI.wf p5.1 (t_outO hI.wf p5.1 rfl) rfl)).2.2.trans c18_0)) ((hC24.1 0 6 rfl).2.2.trans ((hC23.1 0 6 rfl).2.2.trans c18_1)) (by
                                                            intro u D hu hl hc hb hv hsl hd
                                                            obtain ⟨g1, g2, g3, g4, g5⟩ := j18_0 u D hu hl hc hb hv hsl hd
                                                            have hun : gr18 0 6 = .ref u := ((t_F_X hXh) 0 6 (by decide) rfl).2.2.trans hu
                                                            have ha := Value.ref.inj (c18_1.symm.trans hun)
                                                            subst ha
                                                            have hKh := t_nd_fr hXh rfl
                                                            have hlh := hl.fr (fun K k1 k2 => hKh K (by omega))
                                                            have hch := hc.fr (fun K k1 k2 => hKh K (by omega))
                                                            have hs := q23 D hlh hch hv hb hd hsl
                                                            have hKi := t_nd_fr hXi rfl
                                                            have hci := hc.fr (fun K k1 k2 => hKi K (by omega))
                                                            have c1 := t_clamp (i := y18_3) (by omega)
                                                            have hAb := s_Al_b (w := ar1.toInt) (l := y18_3.toInt) hd (by omega) (by omega)
                                                            have hcp := (g1.fr hC23 rfl).cp hv hci hs.1 hs.2.2.1 hs.2.2.2.1 hs.2.2.2.2.1 hs.2.2.2.2.2
                                                            have hPO := s_PX_O (q := D 4) (m := 0) (x := -1) hb hd hd.2.2.1.1 hAb.1
                                                            have hPB := s_PX_B (q := D 4) (m := 0) (x := -1) hb hd ⟨hd.2.2.1.1, hd.2.2.1.2⟩ hAb.2
                                                            have hlo := s_LS_lo (s_PD_O hb hd hd.2.2.1.1) 0 0 0 0
                                                            have hcw := q24 _ hcp hPB hPO (by decide) (by decide) hPB.1.1 hPB.1.2.2.1 (by omega) (by omega)
                                                            rw [← c1, g2] at hcw
                                                            have hno : ¬ s_sf _ ar1.toInt y18_3.toNatClampNeg ≤ _ := fun hh => by have h9 := hcw.mpr hh; omega
                                                            exact ⟨(g1.fr hC23 rfl).fr hC24 rfl, g2, s_lg_dn g3 (by omega) hno (by omega), g4, g5⟩) rfl
            · have r28 : w24.toInt ≠ 0 := fun e => h25 (Int32.toInt_inj.mp (e.trans (by decide : (0:Int) = (0 : Int32).toInt)))
              have l29 : 1 ≤ w24.toInt := t_nel h25 l24 rfl rfl
              refine ev_loc f_X11_slack (nx := 66) rfl rfl rfl rfl ?_
              refine ev_loc f_X11_slack (nx := 67) rfl rfl rfl rfl ?_
              refine ev_inV2 f_X11_slack (nx := 70) (lo2 := [(0, .ref 0), (1, .int y18_3)]) rfl rfl rfl rfl f_X11_answer (hI.wf.s rfl) rfl rfl rfl rfl rfl ?_
              refine ev_loc f_X11_answer (nx := 1) rfl rfl rfl rfl ?_
              refine ev_ic f_X11_answer (nx := 2) (v := 0) rfl (by decide) rfl ?_
              refine ev_putIT f_X11_answer (nx := 5) rfl (hI.wf.s rfl) rfl rfl rfl (hI.put0 (hI.wf.s rfl) rfl rfl) (hX.upI rfl) (fun g30 e30 hI hX => ?_)
              refine ev_loc f_X11_answer (nx := 6) rfl rfl rfl rfl ?_
              refine ev_retK1 f_X11_answer rfl rfl rfl ?_
              exact ev_ret f_X11_slack rfl rfl rfl ⟨_, _, _, rfl, hI, hX, ⟨_, rfl, (Int.le_trans (by decide : ((-1):Int) ≤ 1) l22), u18_3, (show ∀ (u : Nat) (D : s_D), gr 0 6 = .ref u → t_VL gr u → t_CV gi gl u D → t_Cb D → (u = 3 ∨ 102 ≤ u) → (∀ s : Nat, (s : Int) < D 1 → 0 ≤ D (56 + 5 * s) ∧ D (56 + 5 * s) ≤ 1) → s_DB D → ((0 ≤ ar1.toInt ∧ ar1.toInt < D 1 ∧ (s_LS (s_PD D (D 4)) 0 0 0 0) < 1000000000) → y18_3.toInt = ((s_lg (s_sf D ar1.toInt) (s_LS (s_PD D (D 4)) 0 0 0 0) 60 : Nat) : Int)) ∧ (¬ (0 ≤ ar1.toInt ∧ ar1.toInt < D 1 ∧ (s_LS (s_PD D (D 4)) 0 0 0 0) < 1000000000) → y18_3.toInt = -1) from (by
                                                            intro u D hu hl hc hb hv hsl hd
                                                            obtain ⟨g1, g2, g3, g4, g5⟩ := j18_0 u D hu hl hc hb hv hsl hd
                                                            have hun : gr18 0 6 = .ref u := ((t_F_X hXh) 0 6 (by decide) rfl).2.2.trans hu
                                                            have ha := Value.ref.inj (c18_1.symm.trans hun)
                                                            subst ha
                                                            have hKh := t_nd_fr hXh rfl
                                                            have hlh := hl.fr (fun K k1 k2 => hKh K (by omega))
                                                            have hch := hc.fr (fun K k1 k2 => hKh K (by omega))
                                                            have hs := q23 D hlh hch hv hb hd hsl
                                                            have hKi := t_nd_fr hXi rfl
                                                            have hci := hc.fr (fun K k1 k2 => hKi K (by omega))
                                                            have c1 := t_clamp (i := y18_3) (by omega)
                                                            have hAb := s_Al_b (w := ar1.toInt) (l := y18_3.toInt) hd (by omega) (by omega)
                                                            have hcp := (g1.fr hC23 rfl).cp hv hci hs.1 hs.2.2.1 hs.2.2.2.1 hs.2.2.2.2.1 hs.2.2.2.2.2
                                                            have hPO := s_PX_O (q := D 4) (m := 0) (x := -1) hb hd hd.2.2.1.1 hAb.1
                                                            have hPB := s_PX_B (q := D 4) (m := 0) (x := -1) hb hd ⟨hd.2.2.1.1, hd.2.2.1.2⟩ hAb.2
                                                            have hlo := s_LS_lo (s_PD_O hb hd hd.2.2.1.1) 0 0 0 0
                                                            have hcw := q24 _ hcp hPB hPO (by decide) (by decide) hPB.1.1 hPB.1.2.2.1 (by omega) (by omega)
                                                            rw [← c1, g2] at hcw
                                                            have hyes : s_sf _ ar1.toInt y18_3.toNatClampNeg ≤ _ := hcw.mp (by omega)
                                                            have hr := s_lg_at g3 (by omega) hyes
                                                            exact ⟨fun _ => hr.symm, fun h => absurd (show _ from ⟨g4, g5, by omega⟩) h⟩))⟩⟩
        refine ev_sub (lo := [(3, .int 60), (2, .int w15), (0, .ref 0), (1, .int ar1)]) rfl (t_sc rfl (t_sc rfl (t_sc rfl (t_sc rfl t_sn)))) ?_
        exact L18 _ gi15 gl15 gr15 (60) hI hX p5 p6 (Int.le_trans (by decide : (0:Int) ≤ 60) (by decide : (60:Int) ≤ (60:Int32).toInt)) (by decide : (60:Int32).toInt ≤ (60:Int)) ((hC15.1 a5 7 (t_ninO hI.wf p5.1 (t_outO hI.wf p5.1 rfl) rfl)).2.2.trans ((hC14.1 a5 7 (t_ninO hI.wf p5.1 (t_outO hI.wf p5.1 rfl) rfl)).2.2.trans e6)) ((hC15.1 0 6 rfl).2.2.trans ((hC14.1 0 6 rfl).2.2.trans e5)) (by
                                                            intro u D hu hl hc hb hv hsl hd
                                                            have ha : a5 = u := Value.ref.inj (e5.symm.trans hu)
                                                            subst ha
                                                            have hb1 : (a5 + 3) = a6 := Value.ref.inj ((hl.1.2.2.2.1).symm.trans e6)
                                                            subst hb1
                                                            have hL := hc.2.2.1.1
                                                            have hq := q14 D hl hc hv hb hsl
                                                            have hq2 := q15 _ hq.1 (s_PD_B hb hd ⟨hd.2.2.1.1, hd.2.2.1.2⟩) (s_PD_O hb hd hd.2.2.1.1)
                                                            exact ⟨(s_KP_of hq.1 hq.2.1 hq.2.2.2).fr hC15 rfl, hq2, rfl, by omega, by omega⟩) rfl
      · have l31 : 1000000000 ≤ w15.toInt := t_lel (t_nlt h16) (by decide : (1000000000:Int) ≤ (1000000000:Int32).toInt)
        refine ev_loc f_X11_slack (nx := 27) rfl rfl rfl rfl ?_
        refine ev_bp f_X11_slack (nx := 29) (v := 6) rfl (by decide) rfl ?_
        refine ev_inV2 f_X11_slack (nx := 32) (lo2 := [(0, .ref 0), (1, .int 6)]) rfl rfl rfl rfl f_X11_refuse (hI.wf.s rfl) rfl rfl rfl rfl rfl ?_
        refine ev_loc f_X11_refuse (nx := 1) rfl rfl rfl rfl ?_
        refine ev_loc f_X11_refuse (nx := 2) rfl rfl rfl rfl ?_
        refine ev_putIT f_X11_refuse (nx := 5) rfl (hI.wf.s rfl) rfl rfl rfl (hI.put0 (hI.wf.s rfl) rfl rfl) (hX.upI rfl) (fun g32 e32 hI hX => ?_)
        refine ev_ic f_X11_refuse (nx := 6) (v := -1) rfl (by decide) rfl ?_
        refine ev_retK1 f_X11_refuse rfl rfl rfl ?_
        exact ev_ret f_X11_slack rfl rfl rfl ⟨_, _, _, rfl, hI, hX, ⟨_, rfl, (by decide : ((-1):Int) ≤ ((-1):Int32).toInt), (Int.le_trans (by decide : ((-1):Int32).toInt ≤ ((-1):Int)) (by decide : ((-1):Int) ≤ 60)), (show ∀ (u : Nat) (D : s_D), gr 0 6 = .ref u → t_VL gr u → t_CV gi gl u D → t_Cb D → (u = 3 ∨ 102 ≤ u) → (∀ s : Nat, (s : Int) < D 1 → 0 ≤ D (56 + 5 * s) ∧ D (56 + 5 * s) ≤ 1) → s_DB D → ((0 ≤ ar1.toInt ∧ ar1.toInt < D 1 ∧ (s_LS (s_PD D (D 4)) 0 0 0 0) < 1000000000) → ((-1) : Int) = ((s_lg (s_sf D ar1.toInt) (s_LS (s_PD D (D 4)) 0 0 0 0) 60 : Nat) : Int)) ∧ (¬ (0 ≤ ar1.toInt ∧ ar1.toInt < D 1 ∧ (s_LS (s_PD D (D 4)) 0 0 0 0) < 1000000000) → ((-1) : Int) = -1) from (by
                                                            intro u D hu hl hc hb hv hsl hd
                                                            have ha : a5 = u := Value.ref.inj (e5.symm.trans hu)
                                                            subst ha
                                                            have hb1 : (a5 + 3) = a6 := Value.ref.inj ((hl.1.2.2.2.1).symm.trans e6)
                                                            subst hb1
                                                            have hL := hc.2.2.1.1
                                                            have hq := q14 D hl hc hv hb hsl
                                                            have hq2 := q15 _ hq.1 (s_PD_B hb hd ⟨hd.2.2.1.1, hd.2.2.1.2⟩) (s_PD_O hb hd hd.2.2.1.1)
                                                            exact ⟨fun h => absurd h.2.2 (by omega), fun _ => rfl⟩))⟩⟩
/-! ===== printed by riv.py: slack: the other side ===== -/
noncomputable def wl_e_slack : List (Nat × Nat) := [(69, 2), (69, 44), (69, 45), (69, 48), (89, 10005), (89, 610011), (90, 9999), (91, 9999), (92, 9999)]
noncomputable def Q_e_slack (gi : Nat → Nat → Int32) (gl : Nat → Nat → Int64) (gr : Nat → Nat → Value) (ar1 : Int32) : Int32 → (Nat → Nat → Int32) → (Nat → Nat → Int64) → (Nat → Nat → Value) → Prop := fun (v : Int32) (gi2 : Nat → Nat → Int32) (gl2 : Nat → Nat → Int64) (gr2 : Nat → Nat → Value) => ∀ D : s_D, t_ME 0 gi D → t_Cb D → s_DB D → (gi 69 46).toInt = -1 → ((0 ≤ ar1.toInt ∧ ar1.toInt < D 1 ∧ (s_LS (s_PD D (D 4)) 0 0 0 0) < 1000000000) → v.toInt = ((s_lg (s_sf D ar1.toInt) (s_LS (s_PD D (D 4)) 0 0 0 0) 60 : Nat) : Int)) ∧ (¬ (0 ≤ ar1.toInt ∧ ar1.toInt < D 1 ∧ (s_LS (s_PD D (D 4)) 0 0 0 0) < 1000000000) → v.toInt = -1)
theorem c_e_slack {X : x_Ext} {d : Nat} {sh : List (Nat ⊕ (Nat × Nat))} {gi : Nat → Nat → Int32} {gl : Nat → Nat → Int64} {gr : Nat → Nat → Value} (hI : t_I sh gi gr) (ar1 : Int32) (e_p0 : 1 ≤ (gi 70 4).toInt) : x_Me X (d + 6) n_X12_slack [.ref 69, .int ar1] (sh, gi, gl, gr) (t_PI wl_e_slack sh gi gl gr (-1) 60 (Q_e_slack gi gl gr ar1)) := by
  have hX : t_X wl_e_slack sh gi gl gr gi gl gr := t_X.rf
  refine me_i f_X12_slack (hI.wf.s rfl) rfl rfl rfl ?_
  obtain ⟨l2, u2⟩ := hI.ab (by decide +kernel : t_abr 70 4 4 0 20 = true) (Nat.le_refl _) (Nat.le_refl _)
  refine ev_loc f_X12_slack (nx := 1) rfl rfl rfl rfl ?_
  refine ev_loc f_X12_slack (nx := 2) rfl rfl rfl rfl ?_
  refine ev_inV2 f_X12_slack (nx := 5) (lo2 := [(0, .ref 69), (1, .int ar1)]) rfl rfl rfl rfl f_X12_isShip (hI.wf.s rfl) rfl rfl rfl rfl rfl ?_
  refine ev_loc f_X12_isShip (nx := 1) rfl rfl rfl rfl ?_
  refine ev_if f_X12_isShip (t1 := 18) (t2 := 4) rfl rfl rfl (fun h3 => ?_) (fun h3 => ?_)
  · have u4 : ar1.toInt ≤ (-1) := t_ltu h3 (by decide : (0:Int32).toInt ≤ (0:Int)) rfl
    refine ev_ic f_X12_isShip (nx := 19) (v := 0) rfl (by decide) rfl ?_
    refine ev_retK1 f_X12_isShip rfl rfl rfl ?_
    refine ev_t f_X12_slack (t1 := 8) (t2 := 14) rfl rfl rfl (by decide) ?_
    refine ev_loc f_X12_slack (nx := 9) rfl rfl rfl rfl ?_
    refine ev_ic f_X12_slack (nx := 10) (v := 1) rfl (by decide) rfl ?_
    refine ev_inV2 f_X12_slack (nx := 13) (lo2 := [(0, .ref 69), (1, .int 1)]) rfl rfl rfl rfl f_X12_refuse (hI.wf.s rfl) rfl rfl rfl rfl rfl ?_
    refine ev_loc f_X12_refuse (nx := 1) rfl rfl rfl rfl ?_
    refine ev_loc f_X12_refuse (nx := 2) rfl rfl rfl rfl ?_
    refine ev_putIT f_X12_refuse (nx := 5) rfl (hI.wf.s rfl) rfl rfl rfl (hI.put0 (hI.wf.s rfl) rfl rfl) (hX.upI rfl) (fun g5 e5 hI hX => ?_)
    refine ev_ic f_X12_refuse (nx := 6) (v := -1) rfl (by decide) rfl ?_
    refine ev_retK1 f_X12_refuse rfl rfl rfl ?_
    exact ev_ret f_X12_slack rfl rfl rfl ⟨_, _, _, rfl, hI, hX, ⟨_, rfl, (by decide : ((-1):Int) ≤ ((-1):Int32).toInt), (Int.le_trans (by decide : ((-1):Int32).toInt ≤ ((-1):Int)) (by decide : ((-1):Int) ≤ 60)), (show ∀ D : s_D, t_ME 0 gi D → t_Cb D → s_DB D → (gi 69 46).toInt = -1 → ((0 ≤ ar1.toInt ∧ ar1.toInt < D 1 ∧ (s_LS (s_PD D (D 4)) 0 0 0 0) < 1000000000) → ((-1) : Int) = ((s_lg (s_sf D ar1.toInt) (s_LS (s_PD D (D 4)) 0 0 0 0) 60 : Nat) : Int)) ∧ (¬ (0 ≤ ar1.toInt ∧ ar1.toInt < D 1 ∧ (s_LS (s_PD D (D 4)) 0 0 0 0) < 1000000000) → ((-1) : Int) = -1) from (by
                                                            intro D hm hb hd h46
                                                            have ha : (gi 70 1).toInt = D 1 := hm.1.1.2.1
                                                            exact ⟨fun h => absurd (And.intro h.1 h.2.1) (by omega), fun _ => rfl⟩))⟩⟩
  · have l6 : 0 ≤ ar1.toInt := t_lel (t_nlt h3) (by decide : (0:Int) ≤ (0:Int32).toInt)
    refine ev_loc f_X12_isShip (nx := 5) rfl rfl rfl rfl ?_
    refine ev_loc f_X12_isShip (nx := 6) rfl rfl rfl rfl ?_
    refine ev_getR f_X12_isShip (nx := 9) rfl (hI.wf.s rfl) rfl rfl (hI.wf.r rfl) rfl rfl ?_
    refine ev_ic f_X12_isShip (nx := 10) (v := 1) rfl (by decide) rfl ?_
    obtain ⟨l7, u7⟩ := hI.ab (by decide +kernel : t_abr 70 1 1 0 6 = true) (Nat.le_refl _) (Nat.le_refl _)
    refine ev_ialdv f_X12_isShip (nx := 11) (w := (gi 70 1)) rfl (hI.wf.s rfl) (by decide) (rfl : (1 : Int32).toNatClampNeg = 1) (by decide) rfl rfl ?_
    refine ev_if f_X12_isShip (t1 := 18) (t2 := 14) rfl rfl rfl (fun h8 => ?_) (fun h8 => ?_)
    · have r9 : (gi 70 1).toInt ≤ ar1.toInt := Int32.le_iff_toInt_le.mp h8
      refine ev_ic f_X12_isShip (nx := 19) (v := 0) rfl (by decide) rfl ?_
      refine ev_retK1 f_X12_isShip rfl rfl rfl ?_
      refine ev_t f_X12_slack (t1 := 8) (t2 := 14) rfl rfl rfl (by decide) ?_
      refine ev_loc f_X12_slack (nx := 9) rfl rfl rfl rfl ?_
      refine ev_ic f_X12_slack (nx := 10) (v := 1) rfl (by decide) rfl ?_
      refine ev_inV2 f_X12_slack (nx := 13) (lo2 := [(0, .ref 69), (1, .int 1)]) rfl rfl rfl rfl f_X12_refuse (hI.wf.s rfl) rfl rfl rfl rfl rfl ?_
      refine ev_loc f_X12_refuse (nx := 1) rfl rfl rfl rfl ?_
      refine ev_loc f_X12_refuse (nx := 2) rfl rfl rfl rfl ?_
      refine ev_putIT f_X12_refuse (nx := 5) rfl (hI.wf.s rfl) rfl rfl rfl (hI.put0 (hI.wf.s rfl) rfl rfl) (hX.upI rfl) (fun g10 e10 hI hX => ?_)
      refine ev_ic f_X12_refuse (nx := 6) (v := -1) rfl (by decide) rfl ?_
      refine ev_retK1 f_X12_refuse rfl rfl rfl ?_
      exact ev_ret f_X12_slack rfl rfl rfl ⟨_, _, _, rfl, hI, hX, ⟨_, rfl, (by decide : ((-1):Int) ≤ ((-1):Int32).toInt), (Int.le_trans (by decide : ((-1):Int32).toInt ≤ ((-1):Int)) (by decide : ((-1):Int) ≤ 60)), (show ∀ D : s_D, t_ME 0 gi D → t_Cb D → s_DB D → (gi 69 46).toInt = -1 → ((0 ≤ ar1.toInt ∧ ar1.toInt < D 1 ∧ (s_LS (s_PD D (D 4)) 0 0 0 0) < 1000000000) → ((-1) : Int) = ((s_lg (s_sf D ar1.toInt) (s_LS (s_PD D (D 4)) 0 0 0 0) 60 : Nat) : Int)) ∧ (¬ (0 ≤ ar1.toInt ∧ ar1.toInt < D 1 ∧ (s_LS (s_PD D (D 4)) 0 0 0 0) < 1000000000) → ((-1) : Int) = -1) from (by
                                                            intro D hm hb hd h46
                                                            have ha : (gi 70 1).toInt = D 1 := hm.1.1.2.1
                                                            exact ⟨fun h => absurd (And.intro h.1 h.2.1) (by omega), fun _ => rfl⟩))⟩⟩
    · have r11 : ar1.toInt < (gi 70 1).toInt := Int32.lt_iff_toInt_lt.mp (t_nle h8)
      have u12 : ar1.toInt ≤ 5 := t_ltu (t_nle h8) u7 rfl
      have l13 : 1 ≤ (gi 70 1).toInt := t_ltl (t_nle h8) l6 rfl
      refine ev_ic f_X12_isShip (nx := 15) (v := 1) rfl (by decide) rfl ?_
      refine ev_jmp f_X12_isShip (nx := 19) rfl rfl rfl ?_
      refine ev_retK1 f_X12_isShip rfl rfl rfl ?_
      refine ev_f f_X12_slack (t1 := 8) (t2 := 14) rfl rfl rfl (by decide) ?_
      refine ev_loc f_X12_slack (nx := 15) rfl rfl rfl rfl ?_
      refine ev_ic f_X12_slack (nx := 16) (v := 0) rfl (by decide) rfl ?_
      refine ev_loc f_X12_slack (nx := 17) rfl rfl rfl rfl ?_
      refine ev_getR f_X12_slack (nx := 20) rfl (hI.wf.s rfl) rfl rfl (hI.wf.r rfl) rfl rfl ?_
      refine ev_ic f_X12_slack (nx := 21) (v := 4) rfl (by decide) rfl ?_
      refine ev_ialdv f_X12_slack (nx := 22) (w := (gi 70 4)) rfl (hI.wf.s rfl) (by decide) (rfl : (4 : Int32).toNatClampNeg = 4) (by decide) rfl rfl ?_
      refine ev_qI f_X12_slack (nx := 25) (r := []) rfl rfl rfl rfl rfl rfl rfl (c_n_leastBy hI ((gi 70 4)) l2 u2 (by omega)) rfl hX rfl (fun w15 gi15 gl15 gr15 l15 u15 hI hX hC15 q15 => ?_)
      have q15 : ∀ D : s_D, t_ME 0 gi D → t_Cb D → s_DB D → (gi 69 46).toInt = -1 → w15.toInt = s_an (s_LS (s_PD D (gi 70 4).toInt) 0 0 0 0) := q15
      refine ev_loc f_X12_slack (nx := 26) (lo' := [(2, .int w15), (0, .ref 69), (1, .int ar1)]) rfl rfl rfl rfl ?_
      refine ev_loc f_X12_slack (nx := 27) rfl rfl rfl rfl ?_
      refine ev_ic f_X12_slack (nx := 28) (v := -1) rfl (by decide) rfl ?_
      refine ev_if f_X12_slack (t1 := 31) (t2 := 38) rfl rfl rfl (fun h16 => ?_) (fun h16 => ?_)
      · have u17 : w15.toInt ≤ (-1) := t_equ h16 (by decide : ((-1):Int32).toInt ≤ ((-1):Int))
        have l18 : (-1) ≤ w15.toInt := t_eql h16 (by decide : ((-1):Int) ≤ ((-1):Int32).toInt)
        refine ev_loc f_X12_slack (nx := 32) rfl rfl rfl rfl ?_
        refine ev_bp f_X12_slack (nx := 34) (v := 6) rfl (by decide) rfl ?_
        refine ev_inV2 f_X12_slack (nx := 37) (lo2 := [(0, .ref 69), (1, .int 6)]) rfl rfl rfl rfl f_X12_refuse (hI.wf.s rfl) rfl rfl rfl rfl rfl ?_
        refine ev_loc f_X12_refuse (nx := 1) rfl rfl rfl rfl ?_
        refine ev_loc f_X12_refuse (nx := 2) rfl rfl rfl rfl ?_
        refine ev_putIT f_X12_refuse (nx := 5) rfl (hI.wf.s rfl) rfl rfl rfl (hI.put0 (hI.wf.s rfl) rfl rfl) (hX.upI rfl) (fun g19 e19 hI hX => ?_)
        refine ev_ic f_X12_refuse (nx := 6) (v := -1) rfl (by decide) rfl ?_
        refine ev_retK1 f_X12_refuse rfl rfl rfl ?_
        exact ev_ret f_X12_slack rfl rfl rfl ⟨_, _, _, rfl, hI, hX, ⟨_, rfl, (by decide : ((-1):Int) ≤ ((-1):Int32).toInt), (Int.le_trans (by decide : ((-1):Int32).toInt ≤ ((-1):Int)) (by decide : ((-1):Int) ≤ 60)), (show ∀ D : s_D, t_ME 0 gi D → t_Cb D → s_DB D → (gi 69 46).toInt = -1 → ((0 ≤ ar1.toInt ∧ ar1.toInt < D 1 ∧ (s_LS (s_PD D (D 4)) 0 0 0 0) < 1000000000) → ((-1) : Int) = ((s_lg (s_sf D ar1.toInt) (s_LS (s_PD D (D 4)) 0 0 0 0) 60 : Nat) : Int)) ∧ (¬ (0 ≤ ar1.toInt ∧ ar1.toInt < D 1 ∧ (s_LS (s_PD D (D 4)) 0 0 0 0) < 1000000000) → ((-1) : Int) = -1) from (by
                                                            intro D hm hb hd h46
                                                            have ha : (gi 70 1).toInt = D 1 := hm.1.1.2.1
                                                            have hq := q15 D hm hb hd h46
                                                            have h4 : (gi 70 4).toInt = D 4 := hm.1.2.1
                                                            rw [h4] at hq
                                                            have hl0 := s_LS_lo (s_PD_O (q := D 4) hb hd hd.2.2.1.1) 0 0 0 0
                                                            have hn := (s_an_n hl0).mp (by omega)
                                                            exact ⟨fun h => absurd h.2.2 (by omega), fun _ => rfl⟩))⟩⟩
      · have r20 : w15.toInt ≠ (-1) := fun e => h16 (Int32.toInt_inj.mp (e.trans (by decide : ((-1):Int) = ((-1) : Int32).toInt)))
        refine ev_ic f_X12_slack (nx := 39) (v := 0) rfl (by decide) rfl ?_
        refine ev_loc f_X12_slack (nx := 40) (lo' := [(3, .int 0), (2, .int w15), (0, .ref 69), (1, .int ar1)]) rfl rfl rfl rfl ?_
        refine ev_ic f_X12_slack (nx := 41) (v := 1) rfl (by decide) rfl ?_
        refine ev_loc f_X12_slack (nx := 43) (lo' := [(4, .int 1), (3, .int 0), (2, .int w15), (0, .ref 69), (1, .int ar1)]) rfl rfl rfl rfl ?_
        have L21 : ∀ (m21 : Nat) (gi21 : Nat → Nat → Int32) (gl21 : Nat → Nat → Int64) (gr21 : Nat → Nat → Value) (y21_4 : Int32) (y21_3 : Int32), t_I sh gi21 gr21 → t_X wl_e_slack sh gi gl gr gi21 gl21 gr21 → 1 ≤ y21_4.toInt → y21_4.toInt ≤ 61 → 0 ≤ y21_3.toInt → y21_3.toInt ≤ 60 → gi21 69 46 = (gi 69 46) → gi21 70 1 = (gi 70 1) → gi21 70 4 = (gi 70 4) → (∀ D : s_D, t_ME 0 gi D → t_Cb D → s_DB D → (gi 69 46).toInt = -1 → w15.toInt = (s_LS (s_PD D (D 4)) 0 0 0 0) ∧ y21_3.toInt = ((s_lg (s_sf D ar1.toInt) (s_LS (s_PD D (D 4)) 0 0 0 0) (y21_4.toNatClampNeg - 1) : Nat) : Int) ∧ 0 ≤ ar1.toInt ∧ ar1.toInt < D 1 ∧ (s_LS (s_PD D (D 4)) 0 0 0 0) < 1000000000) → (61 - y21_4.toInt).toNat = m21 → x_Ev X (d + 6) n_X12_slack 43 [(4, .int y21_4), (3, .int y21_3), (2, .int w15), (0, .ref 69), (1, .int ar1)] [] (sh, gi21, gl21, gr21) (t_PI wl_e_slack sh gi gl gr (-1) 60 (Q_e_slack gi gl gr ar1)) := by
          intro m21
          induction m21 using Nat.strongRecOn with
          | _ m21 ih21 =>
          intro gi21 gl21 gr21 y21_4 y21_3 hI hX l21_4 u21_4 l21_3 u21_3 c21_0 c21_1 c21_2 j21_0 hm21
          refine ev_loc f_X12_slack (nx := 45) rfl rfl rfl rfl ?_
          have hXh := hX
          refine ev_bp f_X12_slack (nx := 47) (v := 60) rfl (by decide) rfl ?_
          refine ev_if f_X12_slack (t1 := 80) (t2 := 50) rfl rfl rfl (fun h22 => ?_) (fun h22 => ?_)
          · have l23 : 61 ≤ y21_4.toInt := t_ltl h22 (by decide : (60:Int) ≤ (60:Int32).toInt) rfl
            refine ev_loc f_X12_slack (nx := 81) rfl rfl rfl rfl ?_
            refine ev_loc f_X12_slack (nx := 82) rfl rfl rfl rfl ?_
            refine ev_inV2 f_X12_slack (nx := 85) (lo2 := [(0, .ref 69), (1, .int y21_3)]) rfl rfl rfl rfl f_X12_gives (hI.wf.s rfl) rfl rfl rfl rfl rfl ?_
            refine ev_loc f_X12_gives (nx := 1) rfl rfl rfl rfl ?_
            refine ev_ic f_X12_gives (nx := 2) (v := 0) rfl (by decide) rfl ?_
            refine ev_putIT f_X12_gives (nx := 5) rfl (hI.wf.s rfl) rfl rfl rfl (hI.put0 (hI.wf.s rfl) rfl rfl) (hX.upI rfl) (fun g24 e24 hI hX => ?_)
            refine ev_loc f_X12_gives (nx := 6) rfl rfl rfl rfl ?_
            refine ev_retK1 f_X12_gives rfl rfl rfl ?_
            exact ev_ret f_X12_slack rfl rfl rfl ⟨_, _, _, rfl, hI, hX, ⟨_, rfl, (Int.le_trans (by decide : ((-1):Int) ≤ 0) l21_3), u21_3, (show ∀ D : s_D, t_ME 0 gi D → t_Cb D → s_DB D → (gi 69 46).toInt = -1 → ((0 ≤ ar1.toInt ∧ ar1.toInt < D 1 ∧ (s_LS (s_PD D (D 4)) 0 0 0 0) < 1000000000) → y21_3.toInt = ((s_lg (s_sf D ar1.toInt) (s_LS (s_PD D (D 4)) 0 0 0 0) 60 : Nat) : Int)) ∧ (¬ (0 ≤ ar1.toInt ∧ ar1.toInt < D 1 ∧ (s_LS (s_PD D (D 4)) 0 0 0 0) < 1000000000) → y21_3.toInt = -1) from (by
                                                            intro D hm hb hd h46
                                                            have ha : (gi 70 1).toInt = D 1 := hm.1.1.2.1
                                                            obtain ⟨g2, g3, g4, g5, g6⟩ := j21_0 D hm hb hd h46
                                                            have c1 := t_clamp (i := y21_4) (by omega)
                                                            rw [show y21_4.toNatClampNeg - 1 = 60 from (by omega)] at g3
                                                            exact ⟨fun _ => g3, fun h => absurd (show _ from ⟨g4, g5, g6⟩) h⟩))⟩⟩
          · have u25 : y21_4.toInt ≤ 60 := t_leu (t_nlt h22) (by decide : (60:Int32).toInt ≤ (60:Int))
            refine ev_loc f_X12_slack (nx := 51) rfl rfl rfl rfl ?_
            refine ev_loc f_X12_slack (nx := 52) rfl rfl rfl rfl ?_
            refine ev_loc f_X12_slack (nx := 54) rfl rfl rfl rfl ?_
            refine ev_qI f_X12_slack (nx := 57) (r := []) rfl rfl rfl rfl rfl rfl rfl (c_n_laterBy hI (ar1) l6 u12 (y21_4) (Int.le_trans (by decide : (0:Int) ≤ 1) l21_4) u25 (by
                                                            rw [t_F_nc (t_F_X hXh) rfl (by decide)]
                                                            exact e_p0)) rfl hX rfl (fun w26 gi26 gl26 gr26 l26 u26 hI hX hC26 q26 => ?_)
            have ff27 : (gi21 69 46).toInt = (gi 69 46).toInt := congrArg Int32.toInt c21_0
            have q26 : ∀ D : s_D, t_ME 0 gi21 D → t_Cb D → s_DB D → (gi21 69 46).toInt = -1 → ar1.toInt < D 1 → w26.toInt = s_an (s_LS (s_PX D (D 4) (s_Al (s_A D) ar1.toInt y21_4.toInt) 0 (-1)) 0 0 0 0) := q26
            refine ev_loc f_X12_slack (nx := 59) (lo' := [(5, .int w26), (4, .int y21_4), (3, .int y21_3), (2, .int w15), (0, .ref 69), (1, .int ar1)]) rfl rfl rfl rfl ?_
            refine ev_loc f_X12_slack (nx := 61) rfl rfl rfl rfl ?_
            refine ev_ic f_X12_slack (nx := 62) (v := -1) rfl (by decide) rfl ?_
            refine ev_if f_X12_slack (t1 := 74) (t2 := 65) rfl rfl rfl (fun h28 => ?_) (fun h28 => ?_)
            · have u29 : w26.toInt ≤ (-1) := t_equ h28 (by decide : ((-1):Int32).toInt ≤ ((-1):Int))
              have l30 : (-1) ≤ w26.toInt := t_eql h28 (by decide : ((-1):Int) ≤ ((-1):Int32).toInt)
              refine ev_incR f_X12_slack (nx := 77) (c := 1) (l := 2) (u := 61) rfl rfl (by decide) (by decide) l21_4 u25 rfl rfl (by decide) (by decide) rfl (fun z31 e31 l31 u31 => ?_)
              refine ev_jmp f_X12_slack (nx := 43) rfl rfl rfl ?_
              refine ev_sub (lo := [(4, .int z31), (3, .int y21_3), (2, .int w15), (0, .ref 69), (1, .int ar1)]) rfl (t_sc rfl (t_sc rfl (t_sc rfl (t_sc rfl (t_sc rfl t_sn))))) ?_
              exact ih21 _ (by omega) gi26 gl26 gr26 (z31) (y21_3) hI hX  (Int.le_trans (by decide : (1:Int) ≤ 2) l31) u31 l21_3 u21_3 ((hC26.1 69 46 rfl).1.trans c21_0) ((hC26.1 70 1 rfl).1.trans c21_1) ((hC26.1 70 4 rfl).1.trans c21_2) (by
                                                            intro D hm hb hd h46
                                                            have ha : (gi 70 1).toInt = D 1 := hm.1.1.2.1
                                                            obtain ⟨g2, g3, g4, g5, g6⟩ := j21_0 D hm hb hd h46
                                                            have fh := t_F_X hXh
                                                            have hmn : t_ME 0 gi21 D := hm.mv hb (fun j _ _ _ => congrFun (t_F_nc fh rfl (by decide)) (0 + j))
                                                            have k46 : (gi21 69 46).toInt = -1 := by rw [(fh 69 46 (by decide) rfl).1]; exact h46
                                                            have hq := q26 D hmn hb hd k46 (by omega)
                                                            have c1 := t_clamp (i := y21_4) (by omega)
                                                            rw [← c1] at hq
                                                            have hlo := s_sf_lo hb hd (s := ar1.toInt) (l := y21_4.toNatClampNeg) (by omega)
                                                            have hle := s_an_le hlo g6
                                                            have hq2 : w26.toInt = s_an (s_sf D ar1.toInt y21_4.toNatClampNeg) := hq
                                                            rw [← hq2] at hle
                                                            have hn : ¬ s_sf D ar1.toInt y21_4.toNatClampNeg ≤ s_LS (s_PD D (D 4)) 0 0 0 0 := fun h => absurd (hle.mpr h) (by omega)
                                                            exact ⟨g2, s_lg_up g3 (by omega) (by omega) (Or.inr ⟨hn, rfl⟩), g4, g5, g6⟩) rfl
            · have r32 : w26.toInt ≠ (-1) := fun e => h28 (Int32.toInt_inj.mp (e.trans (by decide : ((-1):Int) = ((-1) : Int32).toInt)))
              refine ev_loc f_X12_slack (nx := 67) rfl rfl rfl rfl ?_
              refine ev_loc f_X12_slack (nx := 68) rfl rfl rfl rfl ?_
              refine ev_if f_X12_slack (t1 := 74) (t2 := 71) rfl rfl rfl (fun h33 => ?_) (fun h33 => ?_)
              · have r34 : w15.toInt < w26.toInt := Int32.lt_iff_toInt_lt.mp h33
                have u35 : w15.toInt ≤ 999999998 := t_ltu h33 u26 rfl
                have l36 : (-2147483647) ≤ w26.toInt := t_ltl h33 l15 rfl
                refine ev_incR f_X12_slack (nx := 77) (c := 1) (l := 2) (u := 61) rfl rfl (by decide) (by decide) l21_4 u25 rfl rfl (by decide) (by decide) rfl (fun z37 e37 l37 u37 => ?_)
                refine ev_jmp f_X12_slack (nx := 43) rfl rfl rfl ?_
                refine ev_sub (lo := [(4, .int z37), (3, .int y21_3), (2, .int w15), (0, .ref 69), (1, .int ar1)]) rfl (t_sc rfl (t_sc rfl (t_sc rfl (t_sc rfl (t_sc rfl t_sn))))) ?_
                exact ih21 _ (by omega) gi26 gl26 gr26 (z37) (y21_3) hI hX  (Int.le_trans (by decide : (1:Int) ≤ 2) l37) u37 l21_3 u21_3 ((hC26.1 69 46 rfl).1.trans c21_0) ((hC26.1 70 1 rfl).1.trans c21_1) ((hC26.1 70 4 rfl).1.trans c21_2) (by
                                                            intro D hm hb hd h46
                                                            have ha : (gi 70 1).toInt = D 1 := hm.1.1.2.1
                                                            obtain ⟨g2, g3, g4, g5, g6⟩ := j21_0 D hm hb hd h46
                                                            have fh := t_F_X hXh
                                                            have hmn : t_ME 0 gi21 D := hm.mv hb (fun j _ _ _ => congrFun (t_F_nc fh rfl (by decide)) (0 + j))
                                                            have k46 : (gi21 69 46).toInt = -1 := by rw [(fh 69 46 (by decide) rfl).1]; exact h46
                                                            have hq := q26 D hmn hb hd k46 (by omega)
                                                            have c1 := t_clamp (i := y21_4) (by omega)
                                                            rw [← c1] at hq
                                                            have hlo := s_sf_lo hb hd (s := ar1.toInt) (l := y21_4.toNatClampNeg) (by omega)
                                                            have hle := s_an_le hlo g6
                                                            have hq2 : w26.toInt = s_an (s_sf D ar1.toInt y21_4.toNatClampNeg) := hq
                                                            rw [← hq2] at hle
                                                            have hn : ¬ s_sf D ar1.toInt y21_4.toNatClampNeg ≤ s_LS (s_PD D (D 4)) 0 0 0 0 := fun h => absurd (hle.mpr h) (by omega)
                                                            exact ⟨g2, s_lg_up g3 (by omega) (by omega) (Or.inr ⟨hn, rfl⟩), g4, g5, g6⟩) rfl
              · have r38 : w26.toInt ≤ w15.toInt := Int32.le_iff_toInt_le.mp (t_nlt h33)
                refine ev_loc f_X12_slack (nx := 73) rfl rfl rfl rfl ?_
                refine ev_loc f_X12_slack (nx := 74) (lo' := [(3, .int y21_4), (5, .int w26), (4, .int y21_4), (2, .int w15), (0, .ref 69), (1, .int ar1)]) rfl rfl rfl rfl ?_
                refine ev_incR f_X12_slack (nx := 77) (c := 1) (l := 2) (u := 61) rfl rfl (by decide) (by decide) l21_4 u25 rfl rfl (by decide) (by decide) rfl (fun z39 e39 l39 u39 => ?_)
                refine ev_jmp f_X12_slack (nx := 43) rfl rfl rfl ?_
                refine ev_sub (lo := [(4, .int z39), (3, .int y21_4), (2, .int w15), (0, .ref 69), (1, .int ar1)]) rfl (t_sc rfl (t_sc rfl (t_sc rfl (t_sc rfl (t_sc rfl t_sn))))) ?_
                exact ih21 _ (by omega) gi26 gl26 gr26 (z39) (y21_4) hI hX  (Int.le_trans (by decide : (1:Int) ≤ 2) l39) u39 (Int.le_trans (by decide : (0:Int) ≤ 1) l21_4) u25 ((hC26.1 69 46 rfl).1.trans c21_0) ((hC26.1 70 1 rfl).1.trans c21_1) ((hC26.1 70 4 rfl).1.trans c21_2) (by
                                                            intro D hm hb hd h46
                                                            have ha : (gi 70 1).toInt = D 1 := hm.1.1.2.1
                                                            obtain ⟨g2, g3, g4, g5, g6⟩ := j21_0 D hm hb hd h46
                                                            have fh := t_F_X hXh
                                                            have hmn : t_ME 0 gi21 D := hm.mv hb (fun j _ _ _ => congrFun (t_F_nc fh rfl (by decide)) (0 + j))
                                                            have k46 : (gi21 69 46).toInt = -1 := by rw [(fh 69 46 (by decide) rfl).1]; exact h46
                                                            have hq := q26 D hmn hb hd k46 (by omega)
                                                            have c1 := t_clamp (i := y21_4) (by omega)
                                                            rw [← c1] at hq
                                                            have hlo := s_sf_lo hb hd (s := ar1.toInt) (l := y21_4.toNatClampNeg) (by omega)
                                                            have hle := s_an_le hlo g6
                                                            have hq2 : w26.toInt = s_an (s_sf D ar1.toInt y21_4.toNatClampNeg) := hq
                                                            rw [← hq2] at hle
                                                            have hy := hle.mp ⟨by omega, by omega⟩
                                                            exact ⟨g2, s_lg_up g3 (by omega) (by omega) (Or.inl ⟨hy, rfl⟩), g4, g5, g6⟩) rfl
        refine ev_sub (lo := [(4, .int 1), (3, .int 0), (2, .int w15), (0, .ref 69), (1, .int ar1)]) rfl (t_sc rfl (t_sc rfl (t_sc rfl (t_sc rfl (t_sc rfl t_sn))))) ?_
        exact L21 _ gi15 gl15 gr15 (1) (0) hI hX  (by decide : (1:Int) ≤ (1:Int32).toInt) (Int.le_trans (by decide : (1:Int32).toInt ≤ (1:Int)) (by decide : (1:Int) ≤ 61)) (by decide : (0:Int) ≤ (0:Int32).toInt) (Int.le_trans (by decide : (0:Int32).toInt ≤ (0:Int)) (by decide : (0:Int) ≤ 60)) ((hC15.1 69 46 rfl).1.trans rfl) ((hC15.1 70 1 rfl).1.trans rfl) ((hC15.1 70 4 rfl).1.trans rfl) (by
                                                            intro D hm hb hd h46
                                                            have ha : (gi 70 1).toInt = D 1 := hm.1.1.2.1
                                                            have hq := q15 D hm hb hd h46
                                                            have h4 : (gi 70 4).toInt = D 4 := hm.1.2.1
                                                            rw [h4] at hq
                                                            have hl0 := s_LS_lo (s_PD_O (q := D 4) hb hd hd.2.2.1.1) 0 0 0 0
                                                            have hlt : s_LS (s_PD D (D 4)) 0 0 0 0 < 1000000000 := by
                                                              by_cases hh : 1000000000 ≤ s_LS (s_PD D (D 4)) 0 0 0 0
                                                              · have hn := (s_an_n hl0).mpr hh; omega
                                                              · exact Int.not_le.mp hh
                                                            rw [s_an_v hlt] at hq
                                                            exact ⟨hq, rfl, by omega, by omega, hlt⟩) rfl
/-! ===== slack: the answers are alike ===== -/
section SLKL
variable {sh : List (Nat ⊕ (Nat × Nat))} {gi g1 g2 : Nat → Nat → Int32} {gl l1 l2 : Nat → Nat → Int64} {gr r1 r2 : Nat → Nat → Value} {w1 : List (Nat × Nat)} {A : Int32} {x1 x2 : Int32}
theorem t_L_slack (hI : t_I sh gi gr) (hD : t_DR sh.length gi gl gr) (f1 : t_F w1 gi gl gr g1 l1 r1) (h70 : t_nc w1 70 = true) (hN1 : (g1 69 46).toInt = -1) (h4 : 1 ≤ (g1 70 4).toInt) (q1 : Q_d_slack gi gl gr A x1 g1 l1 r1) (q2 : Q_e_slack g1 l1 r1 A x2 g2 l2 r2) : x1 = x2 := by
  obtain ⟨u, hu, D, hb, hv, hl, hc, hm⟩ := hD.1
  have r70 : g1 70 = gi 70 := t_F_nc f1 h70 (by decide)
  have hm2 : t_ME 0 g1 D := by unfold t_ME; rw [r70]; exact hm
  have hd : s_DB D := s_DB_of hI hm hb (by rw [← r70]; exact h4)
  have k1 := q1 u D hu hl hc hb hv.1 (t_D_sail hI hb hm) hd
  have k2 := q2 D hm2 hb hd hN1
  apply Int32.toInt_inj.mp
  by_cases hin : 0 ≤ A.toInt ∧ A.toInt < D 1 ∧ s_LS (s_PD D (D 4)) 0 0 0 0 < 1000000000
  · rw [k1.1 hin, k2.1 hin]
  · rw [k1.2 hin, k2.2 hin]
end SLKL
/-! ===== whom to send away ===== -/
/-- how many bits are set, of the lower six -/
noncomputable def s_pc (k : Nat) : Nat := k % 2 + k / 2 % 2 + k / 4 % 2 + k / 8 % 2 + k / 16 % 2 + k / 32 % 2
/-- all can pass, but for a set -/
noncomputable def s_can (D : s_D) (k : Nat) : Prop := s_LS (s_PX D (D 4) (s_A D) (Int32.ofNat k) (-1)) 0 0 0 0 < 1000000000
noncomputable def s_n2 (D : s_D) : Nat := 2 ^ (D 1).toNat
/-- of all sets that will do the one of the fewest, of several the least; -1: none -/
noncomputable def s_AW (D : s_D) (v : Int) : Prop := (v = -1 ∧ ∀ k, k < s_n2 D → ¬ s_can D k) ∨ ∃ b : Nat, v = (b : Int) ∧ b < s_n2 D ∧ s_can D b ∧ ∀ k, k < s_n2 D → s_can D k → s_pc b < s_pc k ∨ (s_pc b = s_pc k ∧ b ≤ k)
/-- none of fewer than i; of i, none ahead of j -/
noncomputable def s_w1 (D : s_D) (i : Int) : Prop := ∀ k, k < s_n2 D → (s_pc k : Int) < i → ¬ s_can D k
noncomputable def s_w2 (D : s_D) (i j : Int) : Prop := ∀ k : Nat, (k : Int) < j → (s_pc k : Int) = i → ¬ s_can D k
/-- the best ahead of j -/
noncomputable def s_wb (D : s_D) (v j : Int) : Prop := (v = -1 ∧ ∀ k : Nat, (k : Int) < j → ¬ s_can D k) ∨ ∃ b : Nat, v = (b : Int) ∧ (b : Int) < j ∧ b < s_n2 D ∧ s_can D b ∧ ∀ k : Nat, (k : Int) < j → s_can D k → s_pc b < s_pc k ∨ (s_pc b = s_pc k ∧ b ≤ k)
section AWY
variable {D : s_D} {v w i j : Int} {x y z : Int32}
theorem s_AW_u (h : s_AW D v) (h2 : s_AW D w) : v = w := by
  rcases h with ⟨e, h⟩ | ⟨b, e, hb, c, h⟩
  · rcases h2 with ⟨e2, _⟩ | ⟨b2, e2, hb2, c2, _⟩
    · rw [e, e2]
    · exact absurd c2 (h b2 hb2)
  · rcases h2 with ⟨e2, h2⟩ | ⟨b2, e2, hb2, c2, h2⟩
    · exact absurd c (h2 b hb)
    · have k1 := h b2 hb2 c2
      have k2 := h2 b hb c
      rw [e, e2]; omega
theorem s_pc_le : ∀ n : Nat, n < 7 → ∀ k : Nat, k < 2 ^ n → s_pc k ≤ n := by decide
theorem s_n2_6 (h : D 1 ≤ 6) : s_n2 D ≤ 64 := by
  unfold s_n2
  exact Nat.pow_le_pow_right (n := 2) (by omega) (show (D 1).toNat ≤ 6 by omega)
theorem s_n2_of {b : Int} (e : b = D 1) (h : (b = 0 ∧ w = 1) ∨ (b = 1 ∧ w = 2) ∨ (b = 2 ∧ w = 4) ∨ (b = 3 ∧ w = 8) ∨ (b = 4 ∧ w = 16) ∨ (b = 5 ∧ w = 32) ∨ (b = 6 ∧ w = 64)) : w = ((s_n2 D : Nat) : Int) := by
  unfold s_n2
  rw [← e]
  rcases h with ⟨h, h2⟩ | ⟨h, h2⟩ | ⟨h, h2⟩ | ⟨h, h2⟩ | ⟨h, h2⟩ | ⟨h, h2⟩ | ⟨h, h2⟩ <;> (rw [h, h2]; rfl)
theorem s_w1_0 : s_w1 D 0 := fun k _ h => absurd h (by omega)
theorem s_w2_0 : s_w2 D i 0 := fun k h => absurd h (by omega)
theorem s_w2_s (h : s_w2 D i y.toInt) (h0 : 0 ≤ y.toInt) (hz : z.toInt = y.toInt + 1) (hn : (s_pc y.toNatClampNeg : Int) = i → ¬ s_can D y.toNatClampNeg) : s_w2 D i z.toInt := by
  intro k hk hp
  have c := t_clamp (i := y) h0
  by_cases e : k = y.toNatClampNeg
  · subst e; exact hn hp
  · exact h k (by omega) hp
theorem s_w1_s (h : s_w1 D i) (h2 : s_w2 D i j) (hj : ((s_n2 D : Nat) : Int) ≤ j) (hz : z.toInt = i + 1) : s_w1 D z.toInt := by
  intro k hk hp
  by_cases e : (s_pc k : Int) = i
  · exact h2 k (by omega) e
  · exact h k hk (by omega)
theorem s_w1_end (h : s_w1 D i) (h6 : 0 ≤ D 1 ∧ D 1 ≤ 6) (hi : D 1 < i) : s_AW D (-1) := by
  refine Or.inl ⟨rfl, fun k hk => h k hk ?_⟩
  have := s_pc_le (D 1).toNat (by omega) k hk
  omega
theorem s_w_yes (h1 : s_w1 D i) (h2 : s_w2 D i y.toInt) (h0 : 0 ≤ y.toInt) (hy : y.toInt < ((s_n2 D : Nat) : Int)) (hp : (s_pc y.toNatClampNeg : Int) = i) (hc : s_can D y.toNatClampNeg) : s_AW D y.toInt := by
  have c := t_clamp (i := y) h0
  refine Or.inr ⟨y.toNatClampNeg, by omega, by omega, hc, fun k hk hck => ?_⟩
  have k1 : ¬ (s_pc k : Int) < i := fun h => h1 k hk h hck
  by_cases e : (s_pc k : Int) = i
  · have k2 : ¬ (k : Int) < y.toInt := fun h => h2 k h e hck
    omega
  · omega
theorem s_wb_0 : s_wb D (-1) 0 := Or.inl ⟨rfl, fun k h => absurd h (by omega)⟩
theorem s_wb_skip (h : s_wb D x.toInt y.toInt) (hx : 0 ≤ x.toInt) (h0 : 0 ≤ y.toInt) (hz : z.toInt = y.toInt + 1) (hp : s_pc x.toNatClampNeg ≤ s_pc y.toNatClampNeg) : s_wb D x.toInt z.toInt := by
  have c := t_clamp (i := y) h0
  have c2 := t_clamp (i := x) hx
  rcases h with ⟨e, _⟩ | ⟨b, e, hj, hb, hc, h⟩
  · omega
  · have eb : x.toNatClampNeg = b := by omega
    rw [eb] at hp
    refine Or.inr ⟨b, e, by omega, hb, hc, fun k hk hck => ?_⟩
    by_cases q : k = y.toNatClampNeg
    · subst q; omega
    · exact h k (by omega) hck
theorem s_wb_no (h : s_wb D v y.toInt) (h0 : 0 ≤ y.toInt) (hz : z.toInt = y.toInt + 1) (hn : ¬ s_can D y.toNatClampNeg) : s_wb D v z.toInt := by
  have c := t_clamp (i := y) h0
  rcases h with ⟨e, h⟩ | ⟨b, e, hj, hb, hc, h⟩
  · refine Or.inl ⟨e, fun k hk => ?_⟩
    by_cases q : k = y.toNatClampNeg
    · rw [q]; exact hn
    · exact h k (by omega)
  · refine Or.inr ⟨b, e, by omega, hb, hc, fun k hk hck => ?_⟩
    by_cases q : k = y.toNatClampNeg
    · rw [q] at hck; exact absurd hck hn
    · exact h k (by omega) hck
theorem s_wb_yes (h : s_wb D x.toInt y.toInt) (h0 : 0 ≤ y.toInt) (hy : y.toInt < ((s_n2 D : Nat) : Int)) (hz : z.toInt = y.toInt + 1) (hb : x.toInt = -1 ∨ s_pc y.toNatClampNeg < s_pc x.toNatClampNeg) (hc : s_can D y.toNatClampNeg) : s_wb D y.toInt z.toInt := by
  have c := t_clamp (i := y) h0
  refine Or.inr ⟨y.toNatClampNeg, by omega, by omega, by omega, hc, fun k hk hck => ?_⟩
  by_cases q : k = y.toNatClampNeg
  · subst q; omega
  · rcases h with ⟨e, h⟩ | ⟨b, e, hj, hb2, hc2, h⟩
    · exact absurd hck (h k (by omega))
    · have k1 := h k (by omega) hck
      rcases hb with hb | hb
      · omega
      · have c2 := t_clamp (i := x) (by omega)
        have eb : x.toNatClampNeg = b := by omega
        rw [eb] at hb
        omega
theorem s_wb_end (h : s_wb D v j) (hj : ((s_n2 D : Nat) : Int) ≤ j) : s_AW D v := by
  rcases h with ⟨e, h⟩ | ⟨b, e, hj2, hb, hc, h⟩
  · exact Or.inl ⟨e, fun k hk => h k (by omega)⟩
  · exact Or.inr ⟨b, e, hb, hc, fun k hk hck => h k (by omega) hck⟩
theorem s_Al_no {A : Nat → Int} {l : Int} : s_Al A (-1) l = A := by
  funext j; unfold s_Al; rw [if_neg (by omega)]; omega
theorem s_can_i (h0 : 0 ≤ y.toInt) : s_can D y.toNatClampNeg = (s_LS (s_PX D (D 4) (s_A D) y (-1)) 0 0 0 0 < 1000000000) := by
  unfold s_can; rw [s_ofc h0]
/-- the class's count of the bits -/
noncomputable def s_us (x y : Int32) : Int32 := (x.toUInt32 >>> (y.toUInt32 &&& Int32.toUInt32 31)).toInt32
noncomputable def s_bc1 (a : Int32) : Int32 := a - (s_us a 1 &&& 1431655765)
noncomputable def s_bc2 (a : Int32) : Int32 := (a &&& 858993459) + (s_us a 2 &&& 858993459)
noncomputable def s_bc3 (a : Int32) : Int32 := (a + s_us a 4) &&& 252645135
noncomputable def s_bc4 (a : Int32) : Int32 := a + s_us a 8
noncomputable def s_bc5 (a : Int32) : Int32 := a + s_us a 16
noncomputable def s_bc (a : Int32) : Int32 := s_bc5 (s_bc4 (s_bc3 (s_bc2 (s_bc1 a)))) &&& 63
theorem s_bc_ok (h0 : 0 ≤ y.toInt) (h1 : y.toInt ≤ 63) : (s_bc y).toInt = ((s_pc y.toNatClampNeg : Nat) : Int) := by
  have c := t_clamp (i := y) h0
  have h : ∀ k : Nat, k < 64 → (s_bc (Int32.ofNat k)).toInt = ((s_pc k : Nat) : Int) := by decide +kernel
  have k := h y.toNatClampNeg (by omega)
  rw [s_ofc h0] at k
  exact k
theorem s_bt_ok {a : Int64} (h : a.toUInt64.toNat < 64) (hz : a ≠ 0) : (a &&& (a - 1)).toUInt64.toNat < 64 ∧ s_pc (a &&& (a - 1)).toUInt64.toNat + 1 = s_pc a.toUInt64.toNat := by
  have hh : ∀ k : Nat, k < 64 → k ≠ 0 → (Int64.ofNat k &&& (Int64.ofNat k - 1)).toUInt64.toNat < 64 ∧ s_pc (Int64.ofNat k &&& (Int64.ofNat k - 1)).toUInt64.toNat + 1 = s_pc k := by decide +kernel
  have e : Int64.ofNat a.toUInt64.toNat = a := by
    apply Int64.toBitVec_inj.mp
    apply BitVec.eq_of_toNat_eq
    show (BitVec.ofNat 64 a.toUInt64.toNat).toNat = a.toBitVec.toNat
    rw [BitVec.toNat_ofNat]
    exact Nat.mod_eq_of_lt a.toBitVec.isLt
  have k := hh a.toUInt64.toNat h (fun h2 => hz (by rw [← e, h2]; rfl))
  rw [e] at k
  exact k
end AWY
/-! rows by hand -/
noncomputable def wl_n_bitCount : List (Nat × Nat) := []
noncomputable def Q_n_bitCount (gi : Nat → Nat → Int32) (gl : Nat → Nat → Int64) (gr : Nat → Nat → Value) (ar0 : Int32) : Int32 → (Nat → Nat → Int32) → (Nat → Nat → Int64) → (Nat → Nat → Value) → Prop := fun (v : Int32) (gi2 : Nat → Nat → Int32) (gl2 : Nat → Nat → Int64) (gr2 : Nat → Nat → Value) => v.toInt = ((s_pc ar0.toNatClampNeg : Nat) : Int)
theorem c_n_bitCount {X : x_Ext} {d : Nat} {sh : List (Nat ⊕ (Nat × Nat))} {gi : Nat → Nat → Int32} {gl : Nat → Nat → Int64} {gr : Nat → Nat → Value} (hI : t_I sh gi gr) (ar0 : Int32) (l_a0 : 0 ≤ ar0.toInt) (u_a0 : ar0.toInt ≤ 63) : x_Me X (d + 1) n_J6_bitCount_0f7a4 [.int ar0] (sh, gi, gl, gr) (t_PI wl_n_bitCount sh gi gl gr 0 6 (Q_n_bitCount gi gl gr ar0)) := by
  have hX : t_X wl_n_bitCount sh gi gl gr gi gl gr := t_X.rf
  refine me_s f_J6_bitCount_0f7a4 rfl rfl ?_
  refine ev_loc f_J6_bitCount_0f7a4 (nx := 1) rfl rfl rfl rfl ?_
  refine ev_loc f_J6_bitCount_0f7a4 (nx := 2) rfl rfl rfl rfl ?_
  refine ev_ic f_J6_bitCount_0f7a4 (nx := 3) (v := 1) rfl (by decide) rfl ?_
  refine ev_anyIE f_J6_bitCount_0f7a4 (nx := 4) rfl rfl rfl rfl (fun z4 e4 => ?_)
  refine ev_ldW f_J6_bitCount_0f7a4 (nx := 7) (v := 1431655765) rfl (by decide) rfl ?_
  refine ev_anyIE f_J6_bitCount_0f7a4 (nx := 8) rfl rfl rfl rfl (fun z8 e8 => ?_)
  refine ev_anyIE f_J6_bitCount_0f7a4 (nx := 9) rfl rfl rfl rfl (fun z9 e9 => ?_)
  have k9 : z9 = s_bc1 ar0 := by rw [e9, e8, e4]; rfl
  refine ev_loc f_J6_bitCount_0f7a4 (nx := 10) (lo' := [(0, .int z9)]) rfl rfl rfl rfl ?_
  refine ev_loc f_J6_bitCount_0f7a4 (nx := 11) rfl rfl rfl rfl ?_
  refine ev_ldW f_J6_bitCount_0f7a4 (nx := 14) (v := 858993459) rfl (by decide) rfl ?_
  refine ev_anyIE f_J6_bitCount_0f7a4 (nx := 15) rfl rfl rfl rfl (fun z15 e15 => ?_)
  refine ev_loc f_J6_bitCount_0f7a4 (nx := 16) rfl rfl rfl rfl ?_
  refine ev_ic f_J6_bitCount_0f7a4 (nx := 17) (v := 2) rfl (by decide) rfl ?_
  refine ev_anyIE f_J6_bitCount_0f7a4 (nx := 18) rfl rfl rfl rfl (fun z18 e18 => ?_)
  refine ev_ldW f_J6_bitCount_0f7a4 (nx := 21) (v := 858993459) rfl (by decide) rfl ?_
  refine ev_anyIE f_J6_bitCount_0f7a4 (nx := 22) rfl rfl rfl rfl (fun z22 e22 => ?_)
  refine ev_anyIE f_J6_bitCount_0f7a4 (nx := 23) rfl rfl rfl rfl (fun z23 e23 => ?_)
  have k23 : z23 = s_bc2 z9 := by rw [e23, e22, e18, e15]; rfl
  refine ev_loc f_J6_bitCount_0f7a4 (nx := 24) (lo' := [(0, .int z23)]) rfl rfl rfl rfl ?_
  refine ev_loc f_J6_bitCount_0f7a4 (nx := 25) rfl rfl rfl rfl ?_
  refine ev_loc f_J6_bitCount_0f7a4 (nx := 26) rfl rfl rfl rfl ?_
  refine ev_ic f_J6_bitCount_0f7a4 (nx := 27) (v := 4) rfl (by decide) rfl ?_
  refine ev_anyIE f_J6_bitCount_0f7a4 (nx := 28) rfl rfl rfl rfl (fun z28 e28 => ?_)
  refine ev_anyIE f_J6_bitCount_0f7a4 (nx := 29) rfl rfl rfl rfl (fun z29 e29 => ?_)
  refine ev_ldW f_J6_bitCount_0f7a4 (nx := 32) (v := 252645135) rfl (by decide) rfl ?_
  refine ev_anyIE f_J6_bitCount_0f7a4 (nx := 33) rfl rfl rfl rfl (fun z33 e33 => ?_)
  have k33 : z33 = s_bc3 z23 := by rw [e33, e29, e28]; rfl
  refine ev_loc f_J6_bitCount_0f7a4 (nx := 34) (lo' := [(0, .int z33)]) rfl rfl rfl rfl ?_
  refine ev_loc f_J6_bitCount_0f7a4 (nx := 35) rfl rfl rfl rfl ?_
  refine ev_loc f_J6_bitCount_0f7a4 (nx := 36) rfl rfl rfl rfl ?_
  refine ev_bp f_J6_bitCount_0f7a4 (nx := 38) (v := 8) rfl (by decide) rfl ?_
  refine ev_anyIE f_J6_bitCount_0f7a4 (nx := 39) rfl rfl rfl rfl (fun z39 e39 => ?_)
  refine ev_anyIE f_J6_bitCount_0f7a4 (nx := 40) rfl rfl rfl rfl (fun z40 e40 => ?_)
  have k40 : z40 = s_bc4 z33 := by rw [e40, e39]; rfl
  refine ev_loc f_J6_bitCount_0f7a4 (nx := 41) (lo' := [(0, .int z40)]) rfl rfl rfl rfl ?_
  refine ev_loc f_J6_bitCount_0f7a4 (nx := 42) rfl rfl rfl rfl ?_
  refine ev_loc f_J6_bitCount_0f7a4 (nx := 43) rfl rfl rfl rfl ?_
  refine ev_bp f_J6_bitCount_0f7a4 (nx := 45) (v := 16) rfl (by decide) rfl ?_
  refine ev_anyIE f_J6_bitCount_0f7a4 (nx := 46) rfl rfl rfl rfl (fun z46 e46 => ?_)
  refine ev_anyIE f_J6_bitCount_0f7a4 (nx := 47) rfl rfl rfl rfl (fun z47 e47 => ?_)
  have k47 : z47 = s_bc5 z40 := by rw [e47, e46]; rfl
  refine ev_loc f_J6_bitCount_0f7a4 (nx := 48) (lo' := [(0, .int z47)]) rfl rfl rfl rfl ?_
  refine ev_loc f_J6_bitCount_0f7a4 (nx := 49) rfl rfl rfl rfl ?_
  refine ev_bp f_J6_bitCount_0f7a4 (nx := 51) (v := 63) rfl (by decide) rfl ?_
  refine ev_anyIE f_J6_bitCount_0f7a4 (nx := 52) rfl rfl rfl rfl (fun z52 e52 => ?_)
  have hv : z52 = s_bc ar0 := by rw [e52, k47, k40, k33, k23, k9]; rfl
  have hk : z52.toInt = ((s_pc ar0.toNatClampNeg : Nat) : Int) := by rw [hv]; exact s_bc_ok l_a0 u_a0
  have h6 : s_pc ar0.toNatClampNeg ≤ 6 := s_pc_le 6 (by decide) _ (by have := t_clamp (i := ar0) (by omega); omega)
  exact ev_ret f_J6_bitCount_0f7a4 rfl rfl rfl ⟨_, _, _, rfl, hI, hX, ⟨z52, rfl, by omega, by omega, hk⟩⟩
noncomputable def wl_n_bits : List (Nat × Nat) := []
noncomputable def Q_n_bits (gi : Nat → Nat → Int32) (gl : Nat → Nat → Int64) (gr : Nat → Nat → Value) (ar0 : Int64) : Int32 → (Nat → Nat → Int32) → (Nat → Nat → Int64) → (Nat → Nat → Value) → Prop := fun (v : Int32) (gi2 : Nat → Nat → Int32) (gl2 : Nat → Nat → Int64) (gr2 : Nat → Nat → Value) => v.toInt = ((s_pc ar0.toUInt64.toNat : Nat) : Int)
theorem c_n_bits {X : x_Ext} {d : Nat} {sh : List (Nat ⊕ (Nat × Nat))} {gi : Nat → Nat → Int32} {gl : Nat → Nat → Int64} {gr : Nat → Nat → Value} (hI : t_I sh gi gr) (ar0 : Int64) (e_p0 : ar0.toUInt64.toNat < 64) : x_Me X (d + 1) n_X12_bits [.long ar0] (sh, gi, gl, gr) (t_PI wl_n_bits sh gi gl gr 0 6 (Q_n_bits gi gl gr ar0)) := by
  have hX : t_X wl_n_bits sh gi gl gr gi gl gr := t_X.rf
  refine me_s f_X12_bits rfl rfl ?_
  refine ev_ic f_X12_bits (nx := 1) (v := 0) rfl (by decide) rfl ?_
  refine ev_loc f_X12_bits (nx := 2) (lo' := [(2, .int 0), (0, .long ar0)]) rfl rfl rfl rfl ?_
  refine ev_loc f_X12_bits (nx := 3) rfl rfl rfl rfl ?_
  refine ev_loc f_X12_bits (nx := 4) (lo' := [(3, .long ar0), (2, .int 0), (0, .long ar0)]) rfl rfl rfl rfl ?_
  have h6 : s_pc ar0.toUInt64.toNat ≤ 6 := s_pc_le 6 (by decide) _ e_p0
  have L1 : ∀ (m1 : Nat) (y1_3 : Int64) (y1_2 : Int32), y1_3.toUInt64.toNat < 64 → y1_2.toInt + ((s_pc y1_3.toUInt64.toNat : Nat) : Int) = ((s_pc ar0.toUInt64.toNat : Nat) : Int) → 0 ≤ y1_2.toInt → y1_3.toUInt64.toNat = m1 → x_Ev X (d + 1) n_X12_bits 4 [(3, .long y1_3), (2, .int y1_2), (0, .long ar0)] [] (sh, gi, gl, gr) (t_PI wl_n_bits sh gi gl gr 0 6 (Q_n_bits gi gl gr ar0)) := by
    intro m1
    induction m1 using Nat.strongRecOn with
    | _ m1 ih1 =>
    intro y1_3 y1_2 k64 kp k0 hm1
    refine ev_loc f_X12_bits (nx := 5) rfl rfl rfl rfl ?_
    refine ev_lc f_X12_bits (nx := 6) (v := 0) rfl (by decide) rfl ?_
    refine ev_anyIE f_X12_bits (nx := 7) rfl rfl rfl rfl (fun z2 e2 => ?_)
    refine ev_if f_X12_bits (t1 := 22) (t2 := 10) rfl rfl rfl (fun h3 => ?_) (fun h3 => ?_)
    · have hz : y1_3 = 0 := (lg_cmp_eq y1_3 0).mp (e2.symm.trans h3)
      rw [hz] at kp
      have kp2 : y1_2.toInt + 0 = ((s_pc ar0.toUInt64.toNat : Nat) : Int) := kp
      refine ev_loc f_X12_bits (nx := 23) rfl rfl rfl rfl ?_
      exact ev_ret f_X12_bits rfl rfl rfl ⟨_, _, _, rfl, hI, hX, ⟨_, rfl, by omega, by omega, (show y1_2.toInt = _ by omega)⟩⟩
    · have hz : y1_3 ≠ 0 := fun h => h3 (by rw [e2, h]; rfl)
      have hb := s_bt_ok k64 hz
      refine ev_incR f_X12_bits (nx := 13) (c := 1) (l := 1) (u := 7) rfl rfl (by decide) (by decide) k0 (show y1_2.toInt ≤ 6 by omega) rfl rfl (by decide) (by decide) rfl (fun z7 e7 l7 u7 => ?_)
      refine ev_loc f_X12_bits (nx := 14) rfl rfl rfl rfl ?_
      refine ev_loc f_X12_bits (nx := 15) rfl rfl rfl rfl ?_
      refine ev_lc f_X12_bits (nx := 16) (v := 1) rfl (by decide) rfl ?_
      refine ev_anyLE f_X12_bits (nx := 17) rfl rfl rfl rfl (fun z8 e8 => ?_)
      refine ev_anyLE f_X12_bits (nx := 18) rfl rfl rfl rfl (fun z9 e9 => ?_)
      refine ev_loc f_X12_bits (nx := 19) (lo' := [(3, .long z9), (2, .int z7), (0, .long ar0)]) rfl rfl rfl rfl ?_
      refine ev_jmp f_X12_bits (nx := 4) rfl rfl rfl ?_
      refine ev_sub (lo := [(3, .long z9), (2, .int z7), (0, .long ar0)]) rfl (t_sc rfl (t_sc rfl (t_sc rfl t_sn))) ?_
      have e : z9 = y1_3 &&& (y1_3 - 1) := by rw [e9, e8]
      rw [← e] at hb
      have hdec := t_bits e2 h3 e8 e9
      exact ih1 _ (by omega) z9 z7 hb.1 (by have := hb.2; omega) (by omega) rfl
  refine ev_sub (lo := [(3, .long ar0), (2, .int 0), (0, .long ar0)]) rfl (t_sc rfl (t_sc rfl (t_sc rfl t_sn))) ?_
  exact L1 _ ar0 0 e_p0 (Int.zero_add _) (by decide) rfl
theorem s_i2l {y : Int32} {w : Int64} (h0 : 0 ≤ y.toInt) (e : w = y.toInt64) : w.toUInt64.toNat = y.toNatClampNeg := by
  have c := t_clamp (i := y) h0
  have h : w.toInt = y.toInt := by rw [e, Int32.toInt_toInt64]
  have h2 : (w.toUInt64.toNat : Int) = w.toInt := by
    have k : w.toInt = (w.toBitVec.toNat : Int) := by
      have := Int64.toInt_toBitVec w
      rw [← this, BitVec.toInt_eq_toNat_of_lt]
      have h3 : 0 ≤ w.toBitVec.toInt := by rw [this]; omega
      have h4 := w.toBitVec.isLt
      rw [BitVec.toInt_eq_toNat_cond] at h3
      split at h3 <;> omega
    rw [k]; rfl
  omega
theorem s_i2l6 {y : Int32} {w : Int64} (h0 : 0 ≤ y.toInt) (h1 : y.toInt ≤ 63) (e : w = y.toInt64) : w.toUInt64.toNat < 64 := by
  have c := t_clamp (i := y) h0
  rw [s_i2l h0 e]; omega
/-! ===== printed by riv.py: whom to send away: the class ===== -/
noncomputable def wl_d_away : List (Nat × Nat) := [(0, 0), (28, 0), (28, 1), (28, 4), (28, 5), (29, 0), (30, 9999), (31, 9999), (32, 9999), (33, 9999), (34, 9999), (35, 0), (36, 9999), (37, 9999), (38, 9999), (39, 9999), (40, 9999)]
noncomputable def Q_d_away (gi : Nat → Nat → Int32) (gl : Nat → Nat → Int64) (gr : Nat → Nat → Value) : Int32 → (Nat → Nat → Int32) → (Nat → Nat → Int64) → (Nat → Nat → Value) → Prop := fun (v : Int32) (gi2 : Nat → Nat → Int32) (gl2 : Nat → Nat → Int64) (gr2 : Nat → Nat → Value) => ∀ (u : Nat) (D : s_D), gr 0 6 = .ref u → t_VL gr u → t_CV gi gl u D → t_Cb D → (u = 3 ∨ 102 ≤ u) → (∀ s : Nat, (s : Int) < D 1 → 0 ≤ D (56 + 5 * s) ∧ D (56 + 5 * s) ≤ 1) → s_DB D → s_AW D v.toInt
theorem c_d_away {X : x_Ext} {d : Nat} {sh : List (Nat ⊕ (Nat × Nat))} {gi : Nat → Nat → Int32} {gl : Nat → Nat → Int64} {gr : Nat → Nat → Value} (hI : t_I sh gi gr) : x_Me X (d + 19) n_X11_away [.ref 0] (sh, gi, gl, gr) (t_PI wl_d_away sh gi gl gr (-1) 63 (Q_d_away gi gl gr)) := by
  have hX : t_X wl_d_away sh gi gl gr gi gl gr := t_X.rf
  refine me_i f_X11_away (hI.wf.s rfl) rfl rfl rfl ?_
  refine ev_loc f_X11_away (nx := 1) rfl rfl rfl rfl ?_
  refine ev_getR f_X11_away (nx := 4) rfl (hI.wf.s rfl) rfl rfl (hI.wf.r rfl) rfl rfl ?_
  refine ev_loc f_X11_away (nx := 5) rfl rfl rfl rfl ?_
  obtain ⟨a1, e1, p1⟩ := hI.2.2.2.1.1
  refine ev_getR f_X11_away (nx := 8) rfl (hI.wf.s rfl) rfl rfl e1 rfl rfl ?_
  refine ev_qN f_X11_away (nx := 11) (r := []) rfl rfl rfl rfl rfl rfl rfl (c_d_takeAll hI (a1) p1) rfl hX rfl (fun gi2 gl2 gr2 hI hX hC2 q2 => ?_)
  have q2 : ∀ D : s_D, t_VL gr a1 → t_CV gi gl a1 D → (a1 = 3 ∨ 102 ≤ a1) → t_Cb D → (∀ s : Nat, (s : Int) < D 1 → 0 ≤ D (56 + 5 * s) ∧ D (56 + 5 * s) ≤ 1) → s_CP (s_PD D (D 4)) gi2 gr2 ∧ gr2 28 0 = .ref a1 ∧ t_CV gi2 gl2 a1 D ∧ (gi2 28 1).toInt = D 4 := q2
  replace p1 := p1.ext hC2.2
  refine ev_ic f_X11_away (nx := 12) (v := 0) rfl (by decide) rfl ?_
  refine ev_loc f_X11_away (nx := 13) (lo' := [(1, .int 0), (0, .ref 0)]) rfl rfl rfl rfl ?_
  have L3 : ∀ (m3 : Nat) (gi3 : Nat → Nat → Int32) (gl3 : Nat → Nat → Int64) (gr3 : Nat → Nat → Value) (y3_1 : Int32), t_I sh gi3 gr3 → t_X wl_d_away sh gi gl gr gi3 gl3 gr3 → t_Rv sh gr3 a1 → 0 ≤ y3_1.toInt → y3_1.toInt ≤ 7 → gr3 0 6 = .ref a1 → (∀ (u : Nat) (D : s_D), gr 0 6 = .ref u → t_VL gr u → t_CV gi gl u D → t_Cb D → (u = 3 ∨ 102 ≤ u) → (∀ s : Nat, (s : Int) < D 1 → 0 ≤ D (56 + 5 * s) ∧ D (56 + 5 * s) ≤ 1) → s_DB D → s_KP D u gi3 gr3 ∧ s_w1 D y3_1.toInt) → (7 - y3_1.toInt).toNat = m3 → x_Ev X (d + 19) n_X11_away 13 [(1, .int y3_1), (0, .ref 0)] [] (sh, gi3, gl3, gr3) (t_PI wl_d_away sh gi gl gr (-1) 63 (Q_d_away gi gl gr)) := by
    intro m3
    induction m3 using Nat.strongRecOn with
    | _ m3 ih3 =>
    intro gi3 gl3 gr3 y3_1 hI hX p1 l3_1 u3_1 c3_0 j3_0 hm3
    refine ev_loc f_X11_away (nx := 14) rfl rfl rfl rfl ?_
    have hXh := hX
    refine ev_loc f_X11_away (nx := 15) rfl rfl rfl rfl ?_
    refine ev_getR f_X11_away (nx := 18) (v := .ref a1) rfl (hI.wf.s rfl) rfl rfl c3_0 rfl rfl ?_
    obtain ⟨a4, e4, p4⟩ := p1.2.2.2.2.1
    refine ev_getR f_X11_away (nx := 21) rfl p1.1 rfl rfl e4 rfl rfl ?_
    refine ev_getI f_X11_away (nx := 24) rfl p4.1 rfl rfl rfl ?_
    obtain ⟨l5, u5⟩ := hI.b p4.1 (t_bdK rfl : t_bd 3 0 = some (0, 6))
    refine ev_if f_X11_away (t1 := 95) (t2 := 27) rfl rfl rfl (fun h6 => ?_) (fun h6 => ?_)
    · have r7 : (gi3 a4 0).toInt < y3_1.toInt := Int32.lt_iff_toInt_lt.mp h6
      have l8 : 1 ≤ y3_1.toInt := t_ltl h6 l5 rfl
      refine ev_loc f_X11_away (nx := 96) rfl rfl rfl rfl ?_
      refine ev_bp f_X11_away (nx := 98) (v := 6) rfl (by decide) rfl ?_
      refine ev_inV2 f_X11_away (nx := 101) (lo2 := [(0, .ref 0), (1, .int 6)]) rfl rfl rfl rfl f_X11_refuse (hI.wf.s rfl) rfl rfl rfl rfl rfl ?_
      refine ev_loc f_X11_refuse (nx := 1) rfl rfl rfl rfl ?_
      refine ev_loc f_X11_refuse (nx := 2) rfl rfl rfl rfl ?_
      refine ev_putIT f_X11_refuse (nx := 5) rfl (hI.wf.s rfl) rfl rfl rfl (hI.put0 (hI.wf.s rfl) rfl rfl) (hX.upI rfl) (fun g9 e9 hI hX => ?_)
      refine ev_ic f_X11_refuse (nx := 6) (v := -1) rfl (by decide) rfl ?_
      refine ev_retK1 f_X11_refuse rfl rfl rfl ?_
      exact ev_ret f_X11_away rfl rfl rfl ⟨_, _, _, rfl, hI, hX, ⟨_, rfl, (by decide : ((-1):Int) ≤ ((-1):Int32).toInt), (Int.le_trans (by decide : ((-1):Int32).toInt ≤ ((-1):Int)) (by decide : ((-1):Int) ≤ 63)), (show ∀ (u : Nat) (D : s_D), gr 0 6 = .ref u → t_VL gr u → t_CV gi gl u D → t_Cb D → (u = 3 ∨ 102 ≤ u) → (∀ s : Nat, (s : Int) < D 1 → 0 ≤ D (56 + 5 * s) ∧ D (56 + 5 * s) ≤ 1) → s_DB D → s_AW D ((-1) : Int) from (by
                                                            intro u D hu hl hc hb hv hsl hd
                                                            obtain ⟨g1, g2⟩ := j3_0 u D hu hl hc hb hv hsl hd
                                                            have hun : gr3 0 6 = .ref u := ((t_F_X hXh) 0 6 (by decide) rfl).2.2.trans hu
                                                            have hKh := t_nd_fr hXh rfl
                                                            have hlh := hl.fr (fun K k1 k2 => hKh K (by omega))
                                                            have hch := hc.fr (fun K k1 k2 => hKh K (by omega))
                                                            have ha : a1 = u := Value.ref.inj ((c3_0).symm.trans hun)
                                                            subst ha
                                                            have hb7 : a4 = (a1 + 3) := (Value.ref.inj ((hlh.1.2.2.2.1).symm.trans e4)).symm
                                                            subst hb7
                                                            have hL := hch.2.2.1.1
                                                            exact s_w1_end g2 (by have := hb.2.1; omega) (by omega)))⟩⟩
    · have r10 : y3_1.toInt ≤ (gi3 a4 0).toInt := Int32.le_iff_toInt_le.mp (t_nlt h6)
      have u11 : y3_1.toInt ≤ 6 := t_leu (t_nlt h6) u5
      refine ev_ic f_X11_away (nx := 28) (v := 0) rfl (by decide) rfl ?_
      refine ev_loc f_X11_away (nx := 29) (lo' := [(2, .int 0), (1, .int y3_1), (0, .ref 0)]) rfl rfl rfl rfl ?_
      have L12 : ∀ (m12 : Nat) (gi12 : Nat → Nat → Int32) (gl12 : Nat → Nat → Int64) (gr12 : Nat → Nat → Value) (y12_2 : Int32), t_I sh gi12 gr12 → t_X wl_d_away sh gi gl gr gi12 gl12 gr12 → t_Rv sh gr12 a1 → t_Ln sh gr12 a4 → 0 ≤ y12_2.toInt → y12_2.toInt ≤ 64 → gr12 a1 7 = .ref a4 → gr12 0 6 = .ref a1 → (∀ (u : Nat) (D : s_D), gr 0 6 = .ref u → t_VL gr u → t_CV gi gl u D → t_Cb D → (u = 3 ∨ 102 ≤ u) → (∀ s : Nat, (s : Int) < D 1 → 0 ≤ D (56 + 5 * s) ∧ D (56 + 5 * s) ≤ 1) → s_DB D → s_KP D u gi12 gr12 ∧ s_w1 D y3_1.toInt ∧ s_w2 D y3_1.toInt y12_2.toInt) → (64 - y12_2.toInt).toNat = m12 → x_Ev X (d + 19) n_X11_away 29 [(2, .int y12_2), (1, .int y3_1), (0, .ref 0)] [] (sh, gi12, gl12, gr12) (t_PI wl_d_away sh gi gl gr (-1) 63 (Q_d_away gi gl gr)) := by
        intro m12
        induction m12 using Nat.strongRecOn with
        | _ m12 ih12 =>
        intro gi12 gl12 gr12 y12_2 hI hX p1 p4 l12_2 u12_2 c12_0 c12_1 j12_0 hm12
        refine ev_loc f_X11_away (nx := 30) rfl rfl rfl rfl ?_
        have hXk := hX
        refine ev_ic f_X11_away (nx := 31) (v := 1) rfl (by decide) rfl ?_
        refine ev_loc f_X11_away (nx := 32) rfl rfl rfl rfl ?_
        refine ev_getR f_X11_away (nx := 35) (v := .ref a1) rfl (hI.wf.s rfl) rfl rfl c12_1 rfl rfl ?_
        refine ev_getR f_X11_away (nx := 38) (v := .ref a4) rfl p1.1 rfl rfl c12_0 rfl rfl ?_
        refine ev_getI f_X11_away (nx := 41) rfl p4.1 rfl rfl rfl ?_
        obtain ⟨l13, u13⟩ := hI.b p4.1 (t_bdK rfl : t_bd 3 0 = some (0, 6))
        refine ev_shl1E f_X11_away (nx := 42) rfl l13 u13 (by decide) (by decide) rfl (fun z14 s14 => ?_)
        have l14 : 1 ≤ z14.toInt := by have := l13; have := u13; omega
        have u14 : z14.toInt ≤ 64 := by have := l13; have := u13; omega
        refine ev_if f_X11_away (t1 := 89) (t2 := 45) rfl rfl rfl (fun h15 => ?_) (fun h15 => ?_)
        · have r16 : z14.toInt ≤ y12_2.toInt := Int32.le_iff_toInt_le.mp h15
          have l17 : 1 ≤ y12_2.toInt := t_lel h15 l14
          refine ev_incR f_X11_away (nx := 92) (c := 1) (l := 1) (u := 7) rfl rfl (by decide) (by decide) l3_1 u11 rfl rfl (by decide) (by decide) rfl (fun z18 e18 l18 u18 => ?_)
          refine ev_jmp f_X11_away (nx := 13) rfl rfl rfl ?_
          refine ev_sub (lo := [(1, .int z18), (0, .ref 0)]) rfl (t_sc rfl (t_sc rfl t_sn)) ?_
          exact ih3 _ (by omega) gi12 gl12 gr12 (z18) hI hX p1 (Int.le_trans (by decide : (0:Int) ≤ 1) l18) u18 c12_1 (by
                                                            intro u D hu hl hc hb hv hsl hd
                                                            obtain ⟨g1, g2, g3⟩ := j12_0 u D hu hl hc hb hv hsl hd
                                                            have hun : gr12 0 6 = .ref u := ((t_F_X hXk) 0 6 (by decide) rfl).2.2.trans hu
                                                            have hKh := t_nd_fr hXk rfl
                                                            have hlh := hl.fr (fun K k1 k2 => hKh K (by omega))
                                                            have hch := hc.fr (fun K k1 k2 => hKh K (by omega))
                                                            have ha : a1 = u := Value.ref.inj ((c12_1).symm.trans hun)
                                                            subst ha
                                                            have hb7 : a4 = (a1 + 3) := (Value.ref.inj ((hlh.1.2.2.2.1).symm.trans c12_0)).symm
                                                            subst hb7
                                                            have hL := hch.2.2.1.1
                                                            have hn := s_n2_of (D := D) (by omega) s14
                                                            exact ⟨g1, s_w1_s g2 g3 (by omega) (by omega)⟩) rfl
        · have r19 : y12_2.toInt < z14.toInt := Int32.lt_iff_toInt_lt.mp (t_nle h15)
          have u20 : y12_2.toInt ≤ 63 := t_ltu (t_nle h15) u14 rfl
          refine ev_loc f_X11_away (nx := 46) rfl rfl rfl rfl ?_
          refine ev_qI0 f_X11_away (nx := 49) (r := []) rfl rfl rfl rfl rfl rfl rfl (c_n_bitCount hI (y12_2) l12_2 u20) rfl (fun w21 l21 u21 q21 => ?_)
          have q21 : w21.toInt = ((s_pc y12_2.toNatClampNeg : Nat) : Int) := q21
          refine ev_loc f_X11_away (nx := 50) rfl rfl rfl rfl ?_
          refine ev_if f_X11_away (t1 := 53) (t2 := 83) rfl rfl rfl (fun h22 => ?_) (fun h22 => ?_)
          · have r23 : w21.toInt = y3_1.toInt := t_eqi h22
            refine ev_loc f_X11_away (nx := 54) rfl rfl rfl rfl ?_
            refine ev_getR f_X11_away (nx := 57) rfl (hI.wf.s rfl) rfl rfl (hI.wf.r rfl) rfl rfl ?_
            refine ev_loc f_X11_away (nx := 58) rfl rfl rfl rfl ?_
            refine ev_getR f_X11_away (nx := 61) (v := .ref a1) rfl (hI.wf.s rfl) rfl rfl c12_1 rfl rfl ?_
            refine ev_loc f_X11_away (nx := 62) rfl rfl rfl rfl ?_
            refine ev_ic f_X11_away (nx := 63) (v := -1) rfl (by decide) rfl ?_
            refine ev_ic f_X11_away (nx := 64) (v := 0) rfl (by decide) rfl ?_
            refine ev_qN f_X11_away (nx := 67) (r := []) rfl rfl rfl rfl rfl rfl rfl (c_d_takeShipsG hI (a1) p1 (y12_2) ((-1)) (0) (by decide : (0:Int) ≤ (0:Int32).toInt) (Int.le_trans (by decide : (0:Int32).toInt ≤ (0:Int)) (by decide : (0:Int) ≤ 500))) rfl hX rfl (fun gi24 gl24 gr24 hI hX hC24 q24 => ?_)
            have q24 : ∀ D : s_D, t_VL gr12 a1 → t_CV gi12 gl12 a1 D → (a1 = 3 ∨ 102 ≤ a1) → t_Cb D → s_DB D → (∀ s : Nat, (s : Int) < D 1 → 0 ≤ D (56 + 5 * s) ∧ D (56 + 5 * s) ≤ 1) → (gi24 29 0).toInt = ((s_fn (s_mk y12_2) (D 1).toNat : Nat) : Int) ∧ s_RF (s_ff (s_Al (s_A D) ((-1) : Int) (0 : Int)) (s_mk y12_2) (D 1).toNat) (fun k => (k : Int)) (gi24 30) (s_fn (s_mk y12_2) (D 1).toNat) ∧ s_RF (s_ff (s_Al (s_A D) ((-1) : Int) (0 : Int)) (s_mk y12_2) (D 1).toNat) (s_Al (s_A D) ((-1) : Int) (0 : Int)) (gi24 31) (s_fn (s_mk y12_2) (D 1).toNat) ∧ s_RF (s_ff (s_Al (s_A D) ((-1) : Int) (0 : Int)) (s_mk y12_2) (D 1).toNat) (fun k => D (54 + 5 * k)) (gi24 32) (s_fn (s_mk y12_2) (D 1).toNat) ∧ s_RF (s_ff (s_Al (s_A D) ((-1) : Int) (0 : Int)) (s_mk y12_2) (D 1).toNat) (fun k => D (55 + 5 * k)) (gi24 33) (s_fn (s_mk y12_2) (D 1).toNat) ∧ s_RF (s_ff (s_Al (s_A D) ((-1) : Int) (0 : Int)) (s_mk y12_2) (D 1).toNat) (fun k => D (56 + 5 * k)) (gi24 34) (s_fn (s_mk y12_2) (D 1).toNat) := q24
            replace p4 := p4.ext hC24.2
            replace p1 := p1.ext hC24.2
            refine ev_loc f_X11_away (nx := 68) rfl rfl rfl rfl ?_
            have hXi := hX
            refine ev_getR f_X11_away (nx := 71) rfl (hI.wf.s rfl) rfl rfl (hI.wf.r rfl) rfl rfl ?_
            refine ev_inV1 f_X11_away (nx := 74) (lo2 := [(0, .ref 28)]) rfl rfl rfl rfl f_X1_allCanPass (hI.wf.s rfl) rfl rfl rfl rfl rfl ?_
            refine ev_loc f_X1_allCanPass (nx := 1) rfl rfl rfl rfl ?_
            refine ev_ic f_X1_allCanPass (nx := 2) (v := 0) rfl (by decide) rfl ?_
            refine ev_ic f_X1_allCanPass (nx := 3) (v := 0) rfl (by decide) rfl ?_
            refine ev_ic f_X1_allCanPass (nx := 4) (v := 0) rfl (by decide) rfl ?_
            refine ev_ic f_X1_allCanPass (nx := 5) (v := 0) rfl (by decide) rfl ?_
            refine ev_ldI f_X1_allCanPass (nx := 7) (v := 999999999) rfl (by decide) rfl ?_
            refine ev_qI f_X1_allCanPass (nx := 10) (r := []) rfl rfl rfl rfl rfl rfl rfl (c_d_canEndWithin hI (0) (0) (by decide : (0:Int) ≤ (0:Int32).toInt) (Int.le_trans (by decide : (0:Int32).toInt ≤ (0:Int)) (by decide : (0:Int) ≤ 1)) (0) (by decide : (0:Int) ≤ (0:Int32).toInt) (Int.le_trans (by decide : (0:Int32).toInt ≤ (0:Int)) (by decide : (0:Int) ≤ 6)) (0) (by decide : (0:Int) ≤ (0:Int32).toInt) (Int.le_trans (by decide : (0:Int32).toInt ≤ (0:Int)) (by decide : (0:Int) ≤ 6)) (999999999)) rfl hX rfl (fun w25 gi25 gl25 gr25 l25 u25 hI hX hC25 q25 => ?_)
            have q25 : ∀ P : Nat → Nat → Int, s_CP P gi24 gr24 → s_PB P → s_PO P → 0 ≤ (0 : Int) → (0 : Int) ≤ 2000 → (0 : Int) ≤ P 0 0 → (0 : Int) ≤ P 0 1 → 0 ≤ (999999999 : Int) → (999999999 : Int) ≤ 999999999 → (w25.toInt = 1 ↔ s_LS P (0 : Int) (0 : Int32).toNatClampNeg (0 : Int32).toNatClampNeg (0 : Int32).toNatClampNeg ≤ (999999999 : Int)) := q25
            replace p4 := p4.ext hC25.2
            replace p1 := p1.ext hC25.2
            refine ev_retK1 f_X1_allCanPass rfl rfl (t_rz l25 u25) ?_
            refine ev_if f_X11_away (t1 := 83) (t2 := 77) rfl rfl rfl (fun h26 => ?_) (fun h26 => ?_)
            · have u27 : w25.toInt ≤ 0 := t_equ h26 (by decide : (0:Int32).toInt ≤ (0:Int))
              refine ev_incR f_X11_away (nx := 86) (c := 1) (l := 1) (u := 64) rfl rfl (by decide) (by decide) l12_2 u20 rfl rfl (by decide) (by decide) rfl (fun z28 e28 l28 u28 => ?_)
              refine ev_jmp f_X11_away (nx := 29) rfl rfl rfl ?_
              refine ev_sub (lo := [(2, .int z28), (1, .int y3_1), (0, .ref 0)]) rfl (t_sc rfl (t_sc rfl (t_sc rfl t_sn))) ?_
              exact ih12 _ (by omega) gi25 gl25 gr25 (z28) hI hX p1 p4 (Int.le_trans (by decide : (0:Int) ≤ 1) l28) u28 ((hC25.1 a1 7 (t_ninO hI.wf p1.1 (t_outO hI.wf p1.1 rfl) rfl)).2.2.trans ((hC24.1 a1 7 (t_ninO hI.wf p1.1 (t_outO hI.wf p1.1 rfl) rfl)).2.2.trans c12_0)) ((hC25.1 0 6 rfl).2.2.trans ((hC24.1 0 6 rfl).2.2.trans c12_1)) (by
                                                            intro u D hu hl hc hb hv hsl hd
                                                            obtain ⟨g1, g2, g3⟩ := j12_0 u D hu hl hc hb hv hsl hd
                                                            have hun : gr12 0 6 = .ref u := ((t_F_X hXk) 0 6 (by decide) rfl).2.2.trans hu
                                                            have hKh := t_nd_fr hXk rfl
                                                            have hlh := hl.fr (fun K k1 k2 => hKh K (by omega))
                                                            have hch := hc.fr (fun K k1 k2 => hKh K (by omega))
                                                            have ha : a1 = u := Value.ref.inj ((c12_1).symm.trans hun)
                                                            subst ha
                                                            have hb7 : a4 = (a1 + 3) := (Value.ref.inj ((hlh.1.2.2.2.1).symm.trans c12_0)).symm
                                                            subst hb7
                                                            have hL := hch.2.2.1.1
                                                            have hs := q24 D hlh hch hv hb hd hsl
                                                            have hKi := t_nd_fr hXi rfl
                                                            have hci := hc.fr (fun K k1 k2 => hKi K (by omega))
                                                            have hAb := s_A_b hd
                                                            have hcp := (g1.fr hC24 rfl).cp hv hci hs.1 hs.2.2.1 hs.2.2.2.1 hs.2.2.2.2.1 hs.2.2.2.2.2
                                                            rw [show s_Al (s_A D) _ _ = s_A D from s_Al_no] at hcp
                                                            have hPO := s_PX_O (q := D 4) (m := y12_2) (x := -1) hb hd hd.2.2.1.1 hAb.1
                                                            have hPB := s_PX_B (q := D 4) (m := y12_2) (x := -1) hb hd ⟨hd.2.2.1.1, hd.2.2.1.2⟩ hAb.2
                                                            have hcw : w25.toInt = 1 ↔ s_LS (s_PX D (D 4) (s_A D) y12_2 (-1)) 0 0 0 0 ≤ 999999999 := q25 _ hcp hPB hPO (by decide) (by decide) hPB.1.1 hPB.1.2.2.1 (by decide) (by decide)
                                                            have hno : ¬ s_can D y12_2.toNatClampNeg := fun hh => by
                                                              rw [s_can_i (by omega)] at hh
                                                              have h9 := hcw.mpr (by omega); omega
                                                            exact ⟨(g1.fr hC24 rfl).fr hC25 rfl, g2, s_w2_s g3 (by omega) (by omega) (fun _ => hno)⟩) rfl
            · have r29 : w25.toInt ≠ 0 := fun e => h26 (Int32.toInt_inj.mp (e.trans (by decide : (0:Int) = (0 : Int32).toInt)))
              have l30 : 1 ≤ w25.toInt := t_nel h26 l25 rfl rfl
              refine ev_loc f_X11_away (nx := 78) rfl rfl rfl rfl ?_
              refine ev_loc f_X11_away (nx := 79) rfl rfl rfl rfl ?_
              refine ev_inV2 f_X11_away (nx := 82) (lo2 := [(0, .ref 0), (1, .int y12_2)]) rfl rfl rfl rfl f_X11_answer (hI.wf.s rfl) rfl rfl rfl rfl rfl ?_
              refine ev_loc f_X11_answer (nx := 1) rfl rfl rfl rfl ?_
              refine ev_ic f_X11_answer (nx := 2) (v := 0) rfl (by decide) rfl ?_
              refine ev_putIT f_X11_answer (nx := 5) rfl (hI.wf.s rfl) rfl rfl rfl (hI.put0 (hI.wf.s rfl) rfl rfl) (hX.upI rfl) (fun g31 e31 hI hX => ?_)
              refine ev_loc f_X11_answer (nx := 6) rfl rfl rfl rfl ?_
              refine ev_retK1 f_X11_answer rfl rfl rfl ?_
              exact ev_ret f_X11_away rfl rfl rfl ⟨_, _, _, rfl, hI, hX, ⟨_, rfl, (Int.le_trans (by decide : ((-1):Int) ≤ 0) l12_2), u20, (show ∀ (u : Nat) (D : s_D), gr 0 6 = .ref u → t_VL gr u → t_CV gi gl u D → t_Cb D → (u = 3 ∨ 102 ≤ u) → (∀ s : Nat, (s : Int) < D 1 → 0 ≤ D (56 + 5 * s) ∧ D (56 + 5 * s) ≤ 1) → s_DB D → s_AW D y12_2.toInt from (by
                                                            intro u D hu hl hc hb hv hsl hd
                                                            obtain ⟨g1, g2, g3⟩ := j12_0 u D hu hl hc hb hv hsl hd
                                                            have hun : gr12 0 6 = .ref u := ((t_F_X hXk) 0 6 (by decide) rfl).2.2.trans hu
                                                            have hKh := t_nd_fr hXk rfl
                                                            have hlh := hl.fr (fun K k1 k2 => hKh K (by omega))
                                                            have hch := hc.fr (fun K k1 k2 => hKh K (by omega))
                                                            have ha : a1 = u := Value.ref.inj ((c12_1).symm.trans hun)
                                                            subst ha
                                                            have hb7 : a4 = (a1 + 3) := (Value.ref.inj ((hlh.1.2.2.2.1).symm.trans c12_0)).symm
                                                            subst hb7
                                                            have hL := hch.2.2.1.1
                                                            have hs := q24 D hlh hch hv hb hd hsl
                                                            have hKi := t_nd_fr hXi rfl
                                                            have hci := hc.fr (fun K k1 k2 => hKi K (by omega))
                                                            have hAb := s_A_b hd
                                                            have hcp := (g1.fr hC24 rfl).cp hv hci hs.1 hs.2.2.1 hs.2.2.2.1 hs.2.2.2.2.1 hs.2.2.2.2.2
                                                            rw [show s_Al (s_A D) _ _ = s_A D from s_Al_no] at hcp
                                                            have hPO := s_PX_O (q := D 4) (m := y12_2) (x := -1) hb hd hd.2.2.1.1 hAb.1
                                                            have hPB := s_PX_B (q := D 4) (m := y12_2) (x := -1) hb hd ⟨hd.2.2.1.1, hd.2.2.1.2⟩ hAb.2
                                                            have hcw : w25.toInt = 1 ↔ s_LS (s_PX D (D 4) (s_A D) y12_2 (-1)) 0 0 0 0 ≤ 999999999 := q25 _ hcp hPB hPO (by decide) (by decide) hPB.1.1 hPB.1.2.2.1 (by decide) (by decide)
                                                            have hn := s_n2_of (D := D) (by omega) s14
                                                            have hyes : s_can D y12_2.toNatClampNeg := by
                                                              rw [s_can_i (by omega)]
                                                              have h9 := hcw.mp (by omega); omega
                                                            exact s_w_yes g2 g3 (by omega) (by omega) (by omega) hyes))⟩⟩
          · have r32 : w21.toInt ≠ y3_1.toInt := t_nei h22
            refine ev_incR f_X11_away (nx := 86) (c := 1) (l := 1) (u := 64) rfl rfl (by decide) (by decide) l12_2 u20 rfl rfl (by decide) (by decide) rfl (fun z33 e33 l33 u33 => ?_)
            refine ev_jmp f_X11_away (nx := 29) rfl rfl rfl ?_
            refine ev_sub (lo := [(2, .int z33), (1, .int y3_1), (0, .ref 0)]) rfl (t_sc rfl (t_sc rfl (t_sc rfl t_sn))) ?_
            exact ih12 _ (by omega) gi12 gl12 gr12 (z33) hI hX p1 p4 (Int.le_trans (by decide : (0:Int) ≤ 1) l33) u33 c12_0 c12_1 (by
                                                            intro u D hu hl hc hb hv hsl hd
                                                            obtain ⟨g1, g2, g3⟩ := j12_0 u D hu hl hc hb hv hsl hd
                                                            exact ⟨g1, g2, s_w2_s g3 (by omega) (by omega) (fun hp => absurd hp (by omega))⟩) rfl
      refine ev_sub (lo := [(2, .int 0), (1, .int y3_1), (0, .ref 0)]) rfl (t_sc rfl (t_sc rfl (t_sc rfl t_sn))) ?_
      exact L12 _ gi3 gl3 gr3 (0) hI hX p1 p4 (by decide : (0:Int) ≤ (0:Int32).toInt) (Int.le_trans (by decide : (0:Int32).toInt ≤ (0:Int)) (by decide : (0:Int) ≤ 64)) e4 c3_0 (by
                                                            intro u D hu hl hc hb hv hsl hd
                                                            obtain ⟨g1, g2⟩ := j3_0 u D hu hl hc hb hv hsl hd
                                                            exact ⟨g1, g2, s_w2_0⟩) rfl
  refine ev_sub (lo := [(1, .int 0), (0, .ref 0)]) rfl (t_sc rfl (t_sc rfl t_sn)) ?_
  exact L3 _ gi2 gl2 gr2 (0) hI hX p1 (by decide : (0:Int) ≤ (0:Int32).toInt) (Int.le_trans (by decide : (0:Int32).toInt ≤ (0:Int)) (by decide : (0:Int) ≤ 7)) ((hC2.1 0 6 rfl).2.2.trans e1) (by
                                                            intro u D hu hl hc hb hv hsl hd
                                                            have ha : a1 = u := Value.ref.inj (e1.symm.trans hu)
                                                            subst ha
                                                            have hq := q2 D hl hc hv hb hsl
                                                            exact ⟨s_KP_of hq.1 hq.2.1 hq.2.2.2, s_w1_0⟩) rfl
/-! ===== printed by riv.py: whom to send away: the other side ===== -/
noncomputable def wl_e_away : List (Nat × Nat) := [(69, 2), (69, 44), (69, 45), (69, 48), (89, 10005), (89, 610011), (90, 9999), (91, 9999), (92, 9999)]
noncomputable def Q_e_away (gi : Nat → Nat → Int32) (gl : Nat → Nat → Int64) (gr : Nat → Nat → Value) : Int32 → (Nat → Nat → Int32) → (Nat → Nat → Int64) → (Nat → Nat → Value) → Prop := fun (v : Int32) (gi2 : Nat → Nat → Int32) (gl2 : Nat → Nat → Int64) (gr2 : Nat → Nat → Value) => ∀ D : s_D, t_ME 0 gi D → t_Cb D → s_DB D → (gi 69 46).toInt = -1 → s_AW D v.toInt
theorem c_e_away {X : x_Ext} {d : Nat} {sh : List (Nat ⊕ (Nat × Nat))} {gi : Nat → Nat → Int32} {gl : Nat → Nat → Int64} {gr : Nat → Nat → Value} (hI : t_I sh gi gr) (e_p0 : 1 ≤ (gi 70 4).toInt) : x_Me X (d + 6) n_X12_away [.ref 69] (sh, gi, gl, gr) (t_PI wl_e_away sh gi gl gr (-1) 63 (Q_e_away gi gl gr)) := by
  have hX : t_X wl_e_away sh gi gl gr gi gl gr := t_X.rf
  refine me_i f_X12_away (hI.wf.s rfl) rfl rfl rfl ?_
  obtain ⟨l2, u2⟩ := hI.ab (by decide +kernel : t_abr 70 4 4 0 20 = true) (Nat.le_refl _) (Nat.le_refl _)
  refine ev_ic f_X12_away (nx := 1) (v := -1) rfl (by decide) rfl ?_
  refine ev_loc f_X12_away (nx := 2) (lo' := [(1, .int (-1)), (0, .ref 69)]) rfl rfl rfl rfl ?_
  refine ev_ic f_X12_away (nx := 3) (v := 0) rfl (by decide) rfl ?_
  refine ev_loc f_X12_away (nx := 4) (lo' := [(2, .int 0), (1, .int (-1)), (0, .ref 69)]) rfl rfl rfl rfl ?_
  have L3 : ∀ (m3 : Nat) (gi3 : Nat → Nat → Int32) (gl3 : Nat → Nat → Int64) (gr3 : Nat → Nat → Value) (y3_2 : Int32) (y3_1 : Int32), t_I sh gi3 gr3 → t_X wl_e_away sh gi gl gr gi3 gl3 gr3 → 0 ≤ y3_2.toInt → y3_2.toInt ≤ 64 → (-1) ≤ y3_1.toInt → y3_1.toInt ≤ 63 → gi3 69 46 = (gi 69 46) → gi3 70 4 = (gi 70 4) → (∀ D : s_D, t_ME 0 gi D → t_Cb D → s_DB D → (gi 69 46).toInt = -1 → s_wb D y3_1.toInt y3_2.toInt) → (64 - y3_2.toInt).toNat = m3 → x_Ev X (d + 6) n_X12_away 4 [(2, .int y3_2), (1, .int y3_1), (0, .ref 69)] [] (sh, gi3, gl3, gr3) (t_PI wl_e_away sh gi gl gr (-1) 63 (Q_e_away gi gl gr)) := by
    intro m3
    induction m3 using Nat.strongRecOn with
    | _ m3 ih3 =>
    intro gi3 gl3 gr3 y3_2 y3_1 hI hX l3_2 u3_2 l3_1 u3_1 c3_0 c3_1 j3_0 hm3
    refine ev_loc f_X12_away (nx := 5) rfl rfl rfl rfl ?_
    have hXh := hX
    refine ev_ic f_X12_away (nx := 6) (v := 1) rfl (by decide) rfl ?_
    refine ev_loc f_X12_away (nx := 7) rfl rfl rfl rfl ?_
    refine ev_getR f_X12_away (nx := 10) rfl (hI.wf.s rfl) rfl rfl (hI.wf.r rfl) rfl rfl ?_
    refine ev_ic f_X12_away (nx := 11) (v := 1) rfl (by decide) rfl ?_
    obtain ⟨l4, u4⟩ := hI.ab (by decide +kernel : t_abr 70 1 1 0 6 = true) (Nat.le_refl _) (Nat.le_refl _)
    refine ev_ialdv f_X12_away (nx := 12) (w := (gi3 70 1)) rfl (hI.wf.s rfl) (by decide) (rfl : (1 : Int32).toNatClampNeg = 1) (by decide) rfl rfl ?_
    refine ev_shl1E f_X12_away (nx := 13) rfl l4 u4 (by decide) (by decide) rfl (fun z5 s5 => ?_)
    have l5 : 1 ≤ z5.toInt := by have := l4; have := u4; omega
    have u5 : z5.toInt ≤ 64 := by have := l4; have := u4; omega
    refine ev_if f_X12_away (t1 := 57) (t2 := 16) rfl rfl rfl (fun h6 => ?_) (fun h6 => ?_)
    · have r7 : z5.toInt ≤ y3_2.toInt := Int32.le_iff_toInt_le.mp h6
      have l8 : 1 ≤ y3_2.toInt := t_lel h6 l5
      refine ev_loc f_X12_away (nx := 58) rfl rfl rfl rfl ?_
      refine ev_loc f_X12_away (nx := 59) rfl rfl rfl rfl ?_
      refine ev_inV2 f_X12_away (nx := 62) (lo2 := [(0, .ref 69), (1, .int y3_1)]) rfl rfl rfl rfl f_X12_orNone (hI.wf.s rfl) rfl rfl rfl rfl rfl ?_
      refine ev_loc f_X12_orNone (nx := 1) rfl rfl rfl rfl ?_
      refine ev_ic f_X12_orNone (nx := 2) (v := -1) rfl (by decide) rfl ?_
      refine ev_if f_X12_orNone (t1 := 5) (t2 := 14) rfl rfl rfl (fun h9 => ?_) (fun h9 => ?_)
      · have u10 : y3_1.toInt ≤ (-1) := t_equ h9 (by decide : ((-1):Int32).toInt ≤ ((-1):Int))
        refine ev_loc f_X12_orNone (nx := 6) rfl rfl rfl rfl ?_
        refine ev_bp f_X12_orNone (nx := 8) (v := 6) rfl (by decide) rfl ?_
        refine ev_inV2 f_X12_orNone (nx := 11) (lo2 := [(0, .ref 69), (1, .int 6)]) rfl rfl rfl rfl f_X12_refuse (hI.wf.s rfl) rfl rfl rfl rfl rfl ?_
        refine ev_loc f_X12_refuse (nx := 1) rfl rfl rfl rfl ?_
        refine ev_loc f_X12_refuse (nx := 2) rfl rfl rfl rfl ?_
        refine ev_putIT f_X12_refuse (nx := 5) rfl (hI.wf.s rfl) rfl rfl rfl (hI.put0 (hI.wf.s rfl) rfl rfl) (hX.upI rfl) (fun g11 e11 hI hX => ?_)
        refine ev_ic f_X12_refuse (nx := 6) (v := -1) rfl (by decide) rfl ?_
        refine ev_retK1 f_X12_refuse rfl rfl rfl ?_
        refine ev_jmp f_X12_orNone (nx := 19) rfl rfl rfl ?_
        refine ev_retK1 f_X12_orNone rfl rfl rfl ?_
        exact ev_ret f_X12_away rfl rfl rfl ⟨_, _, _, rfl, hI, hX, ⟨_, rfl, (by decide : ((-1):Int) ≤ ((-1):Int32).toInt), (Int.le_trans (by decide : ((-1):Int32).toInt ≤ ((-1):Int)) (by decide : ((-1):Int) ≤ 63)), (show ∀ D : s_D, t_ME 0 gi D → t_Cb D → s_DB D → (gi 69 46).toInt = -1 → s_AW D ((-1) : Int) from (by
                                                            intro D hm hb hd h46
                                                            have ha : (gi 70 1).toInt = D 1 := hm.1.1.2.1
                                                            have h4 : (gi 70 4).toInt = D 4 := hm.1.2.1
                                                            have g := j3_0 D hm hb hd h46
                                                            have fh := t_F_X hXh
                                                            have m1 : (gi3 70 1).toInt = D 1 := by rw [t_F_nc fh rfl (by decide)]; exact ha
                                                            have hn2 := s_n2_of (D := D) m1 s5
                                                            have hw := s_wb_end g (by omega)
                                                            rw [show y3_1.toInt = -1 by omega] at hw
                                                            exact hw))⟩⟩
      · have r12 : y3_1.toInt ≠ (-1) := fun e => h9 (Int32.toInt_inj.mp (e.trans (by decide : ((-1):Int) = ((-1) : Int32).toInt)))
        have l13 : 0 ≤ y3_1.toInt := t_nel h9 l3_1 rfl rfl
        refine ev_loc f_X12_orNone (nx := 15) rfl rfl rfl rfl ?_
        refine ev_loc f_X12_orNone (nx := 16) rfl rfl rfl rfl ?_
        refine ev_inV2 f_X12_orNone (nx := 19) (lo2 := [(0, .ref 69), (1, .int y3_1)]) rfl rfl rfl rfl f_X12_gives (hI.wf.s rfl) rfl rfl rfl rfl rfl ?_
        refine ev_loc f_X12_gives (nx := 1) rfl rfl rfl rfl ?_
        refine ev_ic f_X12_gives (nx := 2) (v := 0) rfl (by decide) rfl ?_
        refine ev_putIT f_X12_gives (nx := 5) rfl (hI.wf.s rfl) rfl rfl rfl (hI.put0 (hI.wf.s rfl) rfl rfl) (hX.upI rfl) (fun g14 e14 hI hX => ?_)
        refine ev_loc f_X12_gives (nx := 6) rfl rfl rfl rfl ?_
        refine ev_retK1 f_X12_gives rfl rfl rfl ?_
        refine ev_retK1 f_X12_orNone rfl rfl rfl ?_
        exact ev_ret f_X12_away rfl rfl rfl ⟨_, _, _, rfl, hI, hX, ⟨_, rfl, (Int.le_trans (by decide : ((-1):Int) ≤ 0) l13), u3_1, (show ∀ D : s_D, t_ME 0 gi D → t_Cb D → s_DB D → (gi 69 46).toInt = -1 → s_AW D y3_1.toInt from (by
                                                            intro D hm hb hd h46
                                                            have ha : (gi 70 1).toInt = D 1 := hm.1.1.2.1
                                                            have h4 : (gi 70 4).toInt = D 4 := hm.1.2.1
                                                            have g := j3_0 D hm hb hd h46
                                                            have fh := t_F_X hXh
                                                            have m1 : (gi3 70 1).toInt = D 1 := by rw [t_F_nc fh rfl (by decide)]; exact ha
                                                            have hn2 := s_n2_of (D := D) m1 s5
                                                            have hw := s_wb_end g (by omega)
                                                            exact hw))⟩⟩
    · have r15 : y3_2.toInt < z5.toInt := Int32.lt_iff_toInt_lt.mp (t_nle h6)
      have u16 : y3_2.toInt ≤ 63 := t_ltu (t_nle h6) u5 rfl
      refine ev_loc f_X12_away (nx := 17) rfl rfl rfl rfl ?_
      refine ev_ic f_X12_away (nx := 18) (v := -1) rfl (by decide) rfl ?_
      refine ev_if f_X12_away (t1 := 34) (t2 := 21) rfl rfl rfl (fun h17 => ?_) (fun h17 => ?_)
      · have u18 : y3_1.toInt ≤ (-1) := t_equ h17 (by decide : ((-1):Int32).toInt ≤ ((-1):Int))
        refine ev_loc f_X12_away (nx := 35) rfl rfl rfl rfl ?_
        refine ev_loc f_X12_away (nx := 36) rfl rfl rfl rfl ?_
        refine ev_loc f_X12_away (nx := 37) rfl rfl rfl rfl ?_
        refine ev_getR f_X12_away (nx := 40) rfl (hI.wf.s rfl) rfl rfl (hI.wf.r rfl) rfl rfl ?_
        refine ev_ic f_X12_away (nx := 41) (v := 4) rfl (by decide) rfl ?_
        refine ev_ialdv f_X12_away (nx := 42) (w := (gi 70 4)) rfl (hI.wf.s rfl) (by decide) (rfl : (4 : Int32).toNatClampNeg = 4) (by decide) c3_1 rfl ?_
        refine ev_qI f_X12_away (nx := 45) (r := []) rfl rfl rfl rfl rfl rfl rfl (c_n_leastByG hI (y3_2) ((gi 70 4)) l2 u2 (by omega)) rfl hX rfl (fun w20 gi20 gl20 gr20 l20 u20 hI hX hC20 q20 => ?_)
        have ff21 : (gi3 69 46).toInt = (gi 69 46).toInt := congrArg Int32.toInt c3_0
        have q20 : ∀ D : s_D, t_ME 0 gi3 D → t_Cb D → s_DB D → w20.toInt = s_an (s_LS (s_PX D (gi 70 4).toInt (s_A D) y3_2 (gi3 69 46).toInt) 0 0 0 0) := q20
        refine ev_ic f_X12_away (nx := 46) (v := -1) rfl (by decide) rfl ?_
        refine ev_if f_X12_away (t1 := 51) (t2 := 49) rfl rfl rfl (fun h22 => ?_) (fun h22 => ?_)
        · have u23 : w20.toInt ≤ (-1) := t_equ h22 (by decide : ((-1):Int32).toInt ≤ ((-1):Int))
          have l24 : (-1) ≤ w20.toInt := t_eql h22 (by decide : ((-1):Int) ≤ ((-1):Int32).toInt)
          refine ev_incR f_X12_away (nx := 54) (c := 1) (l := 1) (u := 64) rfl rfl (by decide) (by decide) l3_2 u16 rfl rfl (by decide) (by decide) rfl (fun z25 e25 l25 u25 => ?_)
          refine ev_jmp f_X12_away (nx := 4) rfl rfl rfl ?_
          refine ev_sub (lo := [(2, .int z25), (1, .int y3_1), (0, .ref 69)]) rfl (t_sc rfl (t_sc rfl (t_sc rfl t_sn))) ?_
          exact ih3 _ (by omega) gi20 gl20 gr20 (z25) (y3_1) hI hX  (Int.le_trans (by decide : (0:Int) ≤ 1) l25) u25 l3_1 (Int.le_trans u18 (by decide : ((-1):Int) ≤ 63)) ((hC20.1 69 46 rfl).1.trans c3_0) ((hC20.1 70 4 rfl).1.trans c3_1) (by
                                                            intro D hm hb hd h46
                                                            have ha : (gi 70 1).toInt = D 1 := hm.1.1.2.1
                                                            have h4 : (gi 70 4).toInt = D 4 := hm.1.2.1
                                                            have g := j3_0 D hm hb hd h46
                                                            have fh := t_F_X hXh
                                                            have m1 : (gi3 70 1).toInt = D 1 := by rw [t_F_nc fh rfl (by decide)]; exact ha
                                                            have hmn : t_ME 0 gi3 D := hm.mv hb (fun j _ _ _ => congrFun (t_F_nc fh rfl (by decide)) (0 + j))
                                                            have hq := q20 D hmn hb hd
                                                            rw [show (gi3 69 46).toInt = -1 from (by rw [(fh 69 46 (by decide) rfl).1]; exact h46)] at hq
                                                            rw [show (gi 70 4).toInt = D 4 from h4] at hq
                                                            have hlo : 0 ≤ s_LS (s_PX D (D 4) (s_A D) y3_2 (-1)) 0 0 0 0 := s_LS_lo (s_PX_O hb hd hd.2.2.1.1 (s_A_b hd).1) _ _ _ _
                                                            have hn := s_an_n hlo
                                                            rw [← hq] at hn
                                                            have hn2 := s_n2_of (D := D) m1 s5
                                                            have hno : ¬ s_can D y3_2.toNatClampNeg := by
                                                              rw [s_can_i (by omega)]; have h9 := hn.mp (by omega); omega
                                                            exact s_wb_no g (by omega) (by omega) hno) rfl
        · have r26 : w20.toInt ≠ (-1) := fun e => h22 (Int32.toInt_inj.mp (e.trans (by decide : ((-1):Int) = ((-1) : Int32).toInt)))
          refine ev_loc f_X12_away (nx := 50) rfl rfl rfl rfl ?_
          refine ev_loc f_X12_away (nx := 51) (lo' := [(1, .int y3_2), (2, .int y3_2), (0, .ref 69)]) rfl rfl rfl rfl ?_
          refine ev_incR f_X12_away (nx := 54) (c := 1) (l := 1) (u := 64) rfl rfl (by decide) (by decide) l3_2 u16 rfl rfl (by decide) (by decide) rfl (fun z27 e27 l27 u27 => ?_)
          refine ev_jmp f_X12_away (nx := 4) rfl rfl rfl ?_
          refine ev_sub (lo := [(2, .int z27), (1, .int y3_2), (0, .ref 69)]) rfl (t_sc rfl (t_sc rfl (t_sc rfl t_sn))) ?_
          exact ih3 _ (by omega) gi20 gl20 gr20 (z27) (y3_2) hI hX  (Int.le_trans (by decide : (0:Int) ≤ 1) l27) u27 (Int.le_trans (by decide : ((-1):Int) ≤ 0) l3_2) u16 ((hC20.1 69 46 rfl).1.trans c3_0) ((hC20.1 70 4 rfl).1.trans c3_1) (by
                                                            intro D hm hb hd h46
                                                            have ha : (gi 70 1).toInt = D 1 := hm.1.1.2.1
                                                            have h4 : (gi 70 4).toInt = D 4 := hm.1.2.1
                                                            have g := j3_0 D hm hb hd h46
                                                            have fh := t_F_X hXh
                                                            have m1 : (gi3 70 1).toInt = D 1 := by rw [t_F_nc fh rfl (by decide)]; exact ha
                                                            have hmn : t_ME 0 gi3 D := hm.mv hb (fun j _ _ _ => congrFun (t_F_nc fh rfl (by decide)) (0 + j))
                                                            have hq := q20 D hmn hb hd
                                                            rw [show (gi3 69 46).toInt = -1 from (by rw [(fh 69 46 (by decide) rfl).1]; exact h46)] at hq
                                                            rw [show (gi 70 4).toInt = D 4 from h4] at hq
                                                            have hlo : 0 ≤ s_LS (s_PX D (D 4) (s_A D) y3_2 (-1)) 0 0 0 0 := s_LS_lo (s_PX_O hb hd hd.2.2.1.1 (s_A_b hd).1) _ _ _ _
                                                            have hn := s_an_n hlo
                                                            rw [← hq] at hn
                                                            have hn2 := s_n2_of (D := D) m1 s5
                                                            have hyes : s_can D y3_2.toNatClampNeg := by
                                                              rw [s_can_i (by omega)]; exact Int.not_le.mp (fun h => absurd (hn.mpr h) (by omega))
                                                            exact s_wb_yes g (by omega) (by omega) (by omega) (Or.inl (by omega)) hyes) rfl
      · have r28 : y3_1.toInt ≠ (-1) := fun e => h17 (Int32.toInt_inj.mp (e.trans (by decide : ((-1):Int) = ((-1) : Int32).toInt)))
        have l29 : 0 ≤ y3_1.toInt := t_nel h17 l3_1 rfl rfl
        refine ev_loc f_X12_away (nx := 22) rfl rfl rfl rfl ?_
        refine ev_anyLE f_X12_away (nx := 23) rfl rfl rfl rfl (fun z30 e30 => ?_)
        have i30 : z30.toInt = y3_2.toInt := by rw [e30]; exact Int32.toInt_toInt64 _
        refine ev_qI0 f_X12_away (nx := 26) (r := []) rfl rfl rfl rfl rfl rfl rfl (c_n_bits hI (z30) (s_i2l6 (by omega) (by omega) e30)) rfl (fun w31 l31 u31 q31 => ?_)
        have q31 : w31.toInt = ((s_pc z30.toUInt64.toNat : Nat) : Int) := q31
        refine ev_loc f_X12_away (nx := 27) rfl rfl rfl rfl ?_
        refine ev_anyLE f_X12_away (nx := 28) rfl rfl rfl rfl (fun z32 e32 => ?_)
        have i32 : z32.toInt = y3_1.toInt := by rw [e32]; exact Int32.toInt_toInt64 _
        refine ev_qI0 f_X12_away (nx := 31) (r := [.int w31]) rfl rfl rfl rfl rfl rfl rfl (c_n_bits hI (z32) (s_i2l6 (by omega) (by omega) e32)) rfl (fun w33 l33 u33 q33 => ?_)
        have q33 : w33.toInt = ((s_pc z32.toUInt64.toNat : Nat) : Int) := q33
        refine ev_if f_X12_away (t1 := 51) (t2 := 34) rfl rfl rfl (fun h34 => ?_) (fun h34 => ?_)
        · have r35 : w33.toInt ≤ w31.toInt := Int32.le_iff_toInt_le.mp h34
          refine ev_incR f_X12_away (nx := 54) (c := 1) (l := 1) (u := 64) rfl rfl (by decide) (by decide) l3_2 u16 rfl rfl (by decide) (by decide) rfl (fun z36 e36 l36 u36 => ?_)
          refine ev_jmp f_X12_away (nx := 4) rfl rfl rfl ?_
          refine ev_sub (lo := [(2, .int z36), (1, .int y3_1), (0, .ref 69)]) rfl (t_sc rfl (t_sc rfl (t_sc rfl t_sn))) ?_
          exact ih3 _ (by omega) gi3 gl3 gr3 (z36) (y3_1) hI hX  (Int.le_trans (by decide : (0:Int) ≤ 1) l36) u36 (Int.le_trans (by decide : ((-1):Int) ≤ 0) l29) u3_1 c3_0 c3_1 (by
                                                            intro D hm hb hd h46
                                                            have ha : (gi 70 1).toInt = D 1 := hm.1.1.2.1
                                                            have h4 : (gi 70 4).toInt = D 4 := hm.1.2.1
                                                            have g := j3_0 D hm hb hd h46
                                                            have fh := t_F_X hXh
                                                            have m1 : (gi3 70 1).toInt = D 1 := by rw [t_F_nc fh rfl (by decide)]; exact ha
                                                            have b1 := s_i2l (by omega) e30
                                                            have b2 := s_i2l (by omega) e32
                                                            have p1 := q31
                                                            have p2 := q33
                                                            rw [b1] at p1
                                                            rw [b2] at p2
                                                            exact s_wb_skip g (by omega) (by omega) (by omega) (by omega)) rfl
        · have r37 : w31.toInt < w33.toInt := Int32.lt_iff_toInt_lt.mp (t_nle h34)
          have u38 : w31.toInt ≤ 5 := t_ltu (t_nle h34) u33 rfl
          have l39 : 1 ≤ w33.toInt := t_ltl (t_nle h34) l31 rfl
          refine ev_loc f_X12_away (nx := 35) rfl rfl rfl rfl ?_
          refine ev_loc f_X12_away (nx := 36) rfl rfl rfl rfl ?_
          refine ev_loc f_X12_away (nx := 37) rfl rfl rfl rfl ?_
          refine ev_getR f_X12_away (nx := 40) rfl (hI.wf.s rfl) rfl rfl (hI.wf.r rfl) rfl rfl ?_
          refine ev_ic f_X12_away (nx := 41) (v := 4) rfl (by decide) rfl ?_
          refine ev_ialdv f_X12_away (nx := 42) (w := (gi 70 4)) rfl (hI.wf.s rfl) (by decide) (rfl : (4 : Int32).toNatClampNeg = 4) (by decide) c3_1 rfl ?_
          refine ev_qI f_X12_away (nx := 45) (r := []) rfl rfl rfl rfl rfl rfl rfl (c_n_leastByG hI (y3_2) ((gi 70 4)) l2 u2 (by omega)) rfl hX rfl (fun w41 gi41 gl41 gr41 l41 u41 hI hX hC41 q41 => ?_)
          have ff42 : (gi3 69 46).toInt = (gi 69 46).toInt := congrArg Int32.toInt c3_0
          have q41 : ∀ D : s_D, t_ME 0 gi3 D → t_Cb D → s_DB D → w41.toInt = s_an (s_LS (s_PX D (gi 70 4).toInt (s_A D) y3_2 (gi3 69 46).toInt) 0 0 0 0) := q41
          refine ev_ic f_X12_away (nx := 46) (v := -1) rfl (by decide) rfl ?_
          refine ev_if f_X12_away (t1 := 51) (t2 := 49) rfl rfl rfl (fun h43 => ?_) (fun h43 => ?_)
          · have u44 : w41.toInt ≤ (-1) := t_equ h43 (by decide : ((-1):Int32).toInt ≤ ((-1):Int))
            have l45 : (-1) ≤ w41.toInt := t_eql h43 (by decide : ((-1):Int) ≤ ((-1):Int32).toInt)
            refine ev_incR f_X12_away (nx := 54) (c := 1) (l := 1) (u := 64) rfl rfl (by decide) (by decide) l3_2 u16 rfl rfl (by decide) (by decide) rfl (fun z46 e46 l46 u46 => ?_)
            refine ev_jmp f_X12_away (nx := 4) rfl rfl rfl ?_
            refine ev_sub (lo := [(2, .int z46), (1, .int y3_1), (0, .ref 69)]) rfl (t_sc rfl (t_sc rfl (t_sc rfl t_sn))) ?_
            exact ih3 _ (by omega) gi41 gl41 gr41 (z46) (y3_1) hI hX  (Int.le_trans (by decide : (0:Int) ≤ 1) l46) u46 (Int.le_trans (by decide : ((-1):Int) ≤ 0) l29) u3_1 ((hC41.1 69 46 rfl).1.trans c3_0) ((hC41.1 70 4 rfl).1.trans c3_1) (by
                                                            intro D hm hb hd h46
                                                            have ha : (gi 70 1).toInt = D 1 := hm.1.1.2.1
                                                            have h4 : (gi 70 4).toInt = D 4 := hm.1.2.1
                                                            have g := j3_0 D hm hb hd h46
                                                            have fh := t_F_X hXh
                                                            have m1 : (gi3 70 1).toInt = D 1 := by rw [t_F_nc fh rfl (by decide)]; exact ha
                                                            have hmn : t_ME 0 gi3 D := hm.mv hb (fun j _ _ _ => congrFun (t_F_nc fh rfl (by decide)) (0 + j))
                                                            have hq := q41 D hmn hb hd
                                                            rw [show (gi3 69 46).toInt = -1 from (by rw [(fh 69 46 (by decide) rfl).1]; exact h46)] at hq
                                                            rw [show (gi 70 4).toInt = D 4 from h4] at hq
                                                            have hlo : 0 ≤ s_LS (s_PX D (D 4) (s_A D) y3_2 (-1)) 0 0 0 0 := s_LS_lo (s_PX_O hb hd hd.2.2.1.1 (s_A_b hd).1) _ _ _ _
                                                            have hn := s_an_n hlo
                                                            rw [← hq] at hn
                                                            have hn2 := s_n2_of (D := D) m1 s5
                                                            have hno : ¬ s_can D y3_2.toNatClampNeg := by
                                                              rw [s_can_i (by omega)]; have h9 := hn.mp (by omega); omega
                                                            exact s_wb_no g (by omega) (by omega) hno) rfl
          · have r47 : w41.toInt ≠ (-1) := fun e => h43 (Int32.toInt_inj.mp (e.trans (by decide : ((-1):Int) = ((-1) : Int32).toInt)))
            refine ev_loc f_X12_away (nx := 50) rfl rfl rfl rfl ?_
            refine ev_loc f_X12_away (nx := 51) (lo' := [(1, .int y3_2), (2, .int y3_2), (0, .ref 69)]) rfl rfl rfl rfl ?_
            refine ev_incR f_X12_away (nx := 54) (c := 1) (l := 1) (u := 64) rfl rfl (by decide) (by decide) l3_2 u16 rfl rfl (by decide) (by decide) rfl (fun z48 e48 l48 u48 => ?_)
            refine ev_jmp f_X12_away (nx := 4) rfl rfl rfl ?_
            refine ev_sub (lo := [(2, .int z48), (1, .int y3_2), (0, .ref 69)]) rfl (t_sc rfl (t_sc rfl (t_sc rfl t_sn))) ?_
            exact ih3 _ (by omega) gi41 gl41 gr41 (z48) (y3_2) hI hX  (Int.le_trans (by decide : (0:Int) ≤ 1) l48) u48 (Int.le_trans (by decide : ((-1):Int) ≤ 0) l3_2) u16 ((hC41.1 69 46 rfl).1.trans c3_0) ((hC41.1 70 4 rfl).1.trans c3_1) (by
                                                            intro D hm hb hd h46
                                                            have ha : (gi 70 1).toInt = D 1 := hm.1.1.2.1
                                                            have h4 : (gi 70 4).toInt = D 4 := hm.1.2.1
                                                            have g := j3_0 D hm hb hd h46
                                                            have fh := t_F_X hXh
                                                            have m1 : (gi3 70 1).toInt = D 1 := by rw [t_F_nc fh rfl (by decide)]; exact ha
                                                            have hmn : t_ME 0 gi3 D := hm.mv hb (fun j _ _ _ => congrFun (t_F_nc fh rfl (by decide)) (0 + j))
                                                            have hq := q41 D hmn hb hd
                                                            rw [show (gi3 69 46).toInt = -1 from (by rw [(fh 69 46 (by decide) rfl).1]; exact h46)] at hq
                                                            rw [show (gi 70 4).toInt = D 4 from h4] at hq
                                                            have hlo : 0 ≤ s_LS (s_PX D (D 4) (s_A D) y3_2 (-1)) 0 0 0 0 := s_LS_lo (s_PX_O hb hd hd.2.2.1.1 (s_A_b hd).1) _ _ _ _
                                                            have hn := s_an_n hlo
                                                            rw [← hq] at hn
                                                            have hn2 := s_n2_of (D := D) m1 s5
                                                            have hyes : s_can D y3_2.toNatClampNeg := by
                                                              rw [s_can_i (by omega)]; exact Int.not_le.mp (fun h => absurd (hn.mpr h) (by omega))
                                                            have b1 := s_i2l (by omega) e30
                                                            have b2 := s_i2l (by omega) e32
                                                            have p1 := q31
                                                            have p2 := q33
                                                            rw [b1] at p1
                                                            rw [b2] at p2
                                                            exact s_wb_yes g (by omega) (by omega) (by omega) (Or.inr (by omega)) hyes) rfl
  refine ev_sub (lo := [(2, .int 0), (1, .int (-1)), (0, .ref 69)]) rfl (t_sc rfl (t_sc rfl (t_sc rfl t_sn))) ?_
  exact L3 _ gi gl gr (0) ((-1)) hI hX  (by decide : (0:Int) ≤ (0:Int32).toInt) (Int.le_trans (by decide : (0:Int32).toInt ≤ (0:Int)) (by decide : (0:Int) ≤ 64)) (by decide : ((-1):Int) ≤ ((-1):Int32).toInt) (Int.le_trans (by decide : ((-1):Int32).toInt ≤ ((-1):Int)) (by decide : ((-1):Int) ≤ 63)) rfl rfl (by
                                                            intro D hm hb hd h46
                                                            exact s_wb_0) rfl
/-! ===== whom to send away: the answers are alike ===== -/
section AWYL
variable {sh : List (Nat ⊕ (Nat × Nat))} {gi g1 g2 : Nat → Nat → Int32} {gl l1 l2 : Nat → Nat → Int64} {gr r1 r2 : Nat → Nat → Value} {w1 : List (Nat × Nat)} {x1 x2 : Int32}
theorem t_L_away (hI : t_I sh gi gr) (hD : t_DR sh.length gi gl gr) (f1 : t_F w1 gi gl gr g1 l1 r1) (h70 : t_nc w1 70 = true) (hN1 : (g1 69 46).toInt = -1) (h4 : 1 ≤ (g1 70 4).toInt) (q1 : Q_d_away gi gl gr x1 g1 l1 r1) (q2 : Q_e_away g1 l1 r1 x2 g2 l2 r2) : x1 = x2 := by
  obtain ⟨u, hu, D, hb, hv, hl, hc, hm⟩ := hD.1
  have r70 : g1 70 = gi 70 := t_F_nc f1 h70 (by decide)
  have hm2 : t_ME 0 g1 D := by unfold t_ME; rw [r70]; exact hm
  have hd : s_DB D := s_DB_of hI hm hb (by rw [← r70]; exact h4)
  exact Int32.toInt_inj.mp (s_AW_u (q1 u D hu hl hc hb hv.1 (t_D_sail hI hb hm) hd) (q2 D hm2 hb hd hN1))
end AWYL
