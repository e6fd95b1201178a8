/-! ===== printed by riv.py: slack ===== -/
noncomputable def wl_d_canEndWithin : List (Nat × Nat) := [(28, 4), (28, 5)]
noncomputable def Q_d_canEndWithin (gi : Nat → Nat → Int32) (gl : Nat → Nat → Int64) (gr : Nat → Nat → Value) (ar1 : Int32) (ar2 : Int32) (ar3 : Int32) (ar4 : Int32) (ar5 : Int32) : Int32 → (Nat → Nat → Int32) → (Nat → Nat → Int64) → (Nat → Nat → Value) → Prop := fun (v : Int32) (gi2 : Nat → Nat → Int32) (gl2 : Nat → Nat → Int64) (gr2 : Nat → Nat → Value) => ∀ P : Nat → Nat → Int, s_CP P gi gr → s_PB P → s_PO P → 0 ≤ ar1.toInt → ar1.toInt ≤ 2000 → ar3.toInt ≤ P 0 0 → ar4.toInt ≤ P 0 1 → 0 ≤ ar5.toInt → ar5.toInt ≤ 999999999 → (v.toInt = 1 ↔ s_LS P ar1.toInt ar2.toNatClampNeg ar3.toNatClampNeg ar4.toNatClampNeg ≤ ar5.toInt)
theorem c_d_canEndWithin {X : x_Ext} {d : Nat} {sh : List (Nat ⊕ (Nat × Nat))} {gi : Nat → Nat → Int32} {gl : Nat → Nat → Int64} {gr : Nat → Nat → Value} (hI : t_I sh gi gr) (ar1 : Int32) (ar2 : Int32) (l_a2 : 0 ≤ ar2.toInt) (u_a2 : ar2.toInt ≤ 1) (ar3 : Int32) (l_a3 : 0 ≤ ar3.toInt) (u_a3 : ar3.toInt ≤ 6) (ar4 : Int32) (l_a4 : 0 ≤ ar4.toInt) (u_a4 : ar4.toInt ≤ 6) (ar5 : Int32) : x_Me X (d + 17) n_X1_canEndWithin [.ref 28, .int ar1, .int ar2, .int ar3, .int ar4, .int ar5] (sh, gi, gl, gr) (t_PI wl_d_canEndWithin sh gi gl gr 0 1 (Q_d_canEndWithin gi gl gr ar1 ar2 ar3 ar4 ar5)) := by
  have hX : t_X wl_d_canEndWithin sh gi gl gr gi gl gr := t_X.rf
  refine me_i f_X1_canEndWithin (hI.wf.s rfl) rfl rfl rfl ?_
  refine ev_loc f_X1_canEndWithin (nx := 1) rfl rfl rfl rfl ?_
  refine ev_loc f_X1_canEndWithin (nx := 3) rfl rfl rfl rfl ?_
  refine ev_ic f_X1_canEndWithin (nx := 4) (v := 1) rfl (by decide) rfl ?_
  refine ev_anyIE f_X1_canEndWithin (nx := 5) rfl rfl rfl rfl (fun z1 e1 => ?_)
  refine ev_putIT f_X1_canEndWithin (nx := 8) rfl (hI.wf.s rfl) rfl rfl rfl (hI.put0 (hI.wf.s rfl) rfl rfl) (hX.upI rfl) (fun g2 e2 hI hX => ?_)
  refine ev_loc f_X1_canEndWithin (nx := 9) rfl rfl rfl rfl ?_
  refine ev_loc f_X1_canEndWithin (nx := 11) rfl rfl rfl rfl ?_
  refine ev_putIT f_X1_canEndWithin (nx := 14) rfl (hI.wf.s rfl) rfl rfl rfl (hI.put0 (hI.wf.s rfl) rfl rfl) (hX.upI rfl) (fun g3 e3 hI hX => ?_)
  refine ev_loc f_X1_canEndWithin (nx := 15) rfl rfl rfl rfl ?_
  have hXh := hX
  refine ev_loc f_X1_canEndWithin (nx := 16) rfl rfl rfl rfl ?_
  refine ev_loc f_X1_canEndWithin (nx := 17) rfl rfl rfl rfl ?_
  refine ev_loc f_X1_canEndWithin (nx := 18) rfl rfl rfl rfl ?_
  refine ev_loc f_X1_canEndWithin (nx := 20) rfl rfl rfl rfl ?_
  refine ev_ic f_X1_canEndWithin (nx := 21) (v := 0) rfl (by decide) rfl ?_
  refine ev_qN f_X1_canEndWithin (nx := 24) (r := []) rfl rfl rfl rfl rfl rfl rfl (c_d_search hI (ar1) (ar2) l_a2 u_a2 (ar3) l_a3 u_a3 (ar4) l_a4 u_a4 (0)) rfl hX rfl (fun gi4 gl4 gr4 hI hX hC4 q4 => ?_)
  have ff5 : (g3 28 4).toInt = z1.toInt := congrArg Int32.toInt ((by rw [e3]; exact x_up2_off (Or.inr (by decide)) : g3 28 4 = g2 28 4).trans (by rw [e2]; exact x_up2_at _ _ _ _ : g2 28 4 = z1))
  have ff6 : (g3 28 5).toInt = ar5.toInt := congrArg Int32.toInt (by rw [e3]; exact x_up2_at _ _ _ _ : g3 28 5 = ar5)
  have q4 : ∀ P : Nat → Nat → Int, s_CP P g3 gr → s_PB P → s_PO P → 0 ≤ ar1.toInt → ar1.toInt ≤ 2000 → ar3.toInt ≤ P 0 0 → ar4.toInt ≤ P 0 1 → 0 ≤ (0 : Int) → (0 : Int) ≤ 240000 * (ar3.toInt + ar4.toInt) → (g3 28 4).toInt ≤ 1000000000 → s_BB (g3 28 4).toInt (g3 28 5).toInt ((0 : Int) + s_LS P ar1.toInt ar2.toNatClampNeg ar3.toNatClampNeg ar4.toNatClampNeg) (gi4 28 4).toInt := q4
  refine ev_loc f_X1_canEndWithin (nx := 25) rfl rfl rfl rfl ?_
  refine ev_getI f_X1_canEndWithin (nx := 28) rfl (hI.wf.s rfl) rfl rfl rfl ?_
  refine ev_loc f_X1_canEndWithin (nx := 30) rfl rfl rfl rfl ?_
  refine ev_if f_X1_canEndWithin (t1 := 37) (t2 := 33) rfl rfl rfl (fun h7 => ?_) (fun h7 => ?_)
  · have r8 : ar5.toInt < (gi4 28 4).toInt := Int32.lt_iff_toInt_lt.mp h7
    have u9 : ar5.toInt ≤ 2147483646 := t_ltu h7 (t_hi (gi4 28 4)) rfl
    have l10 : (-2147483647) ≤ (gi4 28 4).toInt := t_ltl h7 (t_lo ar5) rfl
    refine ev_ic f_X1_canEndWithin (nx := 38) (v := 0) rfl (by decide) rfl ?_
    exact ev_ret f_X1_canEndWithin rfl rfl rfl ⟨_, _, _, rfl, hI, hX, ⟨_, rfl, (by decide : (0:Int) ≤ (0:Int32).toInt), (Int.le_trans (by decide : (0:Int32).toInt ≤ (0:Int)) (by decide : (0:Int) ≤ 1)), (show ∀ P : Nat → Nat → Int, s_CP P gi gr → s_PB P → s_PO P → 0 ≤ ar1.toInt → ar1.toInt ≤ 2000 → ar3.toInt ≤ P 0 0 → ar4.toInt ≤ P 0 1 → 0 ≤ ar5.toInt → ar5.toInt ≤ 999999999 → ((0 : Int) = 1 ↔ s_LS P ar1.toInt ar2.toNatClampNeg ar3.toNatClampNeg ar4.toNatClampNeg ≤ ar5.toInt) from (by
                                                            intro P hc hb hp h1 h2 h3 h4 h5 h6
                                                            have hc2 := hc.fr hXh rfl rfl
                                                            have k1 : (1 : Int32).toInt = 1 := rfl
                                                            have hz : z1.toInt = ar5.toInt + 1 := s_add e1 rfl rfl (by omega)
                                                            have h7 : (g3 28 4).toInt = ar5.toInt + 1 := by rw [e3, x_up2_off (Or.inr (by decide)), e2, x_up2_at]; exact hz
                                                            have h8 : (g3 28 5).toInt = ar5.toInt := by rw [e3, x_up2_at]
                                                            have hq := q4 P hc2 hb hp h1 h2 h3 h4 (by decide) (by omega) (by rw [h7]; omega)
                                                            rw [h7, h8, Int.zero_add] at hq
                                                            have hle := s_BB_le hq
                                                            constructor
                                                            · intro h; exact hle.mp (by omega)
                                                            · intro h; have h9 := hle.mpr h; omega))⟩⟩
  · have r11 : (gi4 28 4).toInt ≤ ar5.toInt := Int32.le_iff_toInt_le.mp (t_nlt h7)
    refine ev_ic f_X1_canEndWithin (nx := 34) (v := 1) rfl (by decide) rfl ?_
    refine ev_jmp f_X1_canEndWithin (nx := 38) rfl rfl rfl ?_
    exact ev_ret f_X1_canEndWithin rfl rfl rfl ⟨_, _, _, rfl, hI, hX, ⟨_, rfl, (Int.le_trans (by decide : (0:Int) ≤ 1) (by decide : (1:Int) ≤ (1:Int32).toInt)), (by decide : (1:Int32).toInt ≤ (1:Int)), (show ∀ P : Nat → Nat → Int, s_CP P gi gr → s_PB P → s_PO P → 0 ≤ ar1.toInt → ar1.toInt ≤ 2000 → ar3.toInt ≤ P 0 0 → ar4.toInt ≤ P 0 1 → 0 ≤ ar5.toInt → ar5.toInt ≤ 999999999 → ((1 : Int) = 1 ↔ s_LS P ar1.toInt ar2.toNatClampNeg ar3.toNatClampNeg ar4.toNatClampNeg ≤ ar5.toInt) from (by
                                                            intro P hc hb hp h1 h2 h3 h4 h5 h6
                                                            have hc2 := hc.fr hXh rfl rfl
                                                            have k1 : (1 : Int32).toInt = 1 := rfl
                                                            have hz : z1.toInt = ar5.toInt + 1 := s_add e1 rfl rfl (by omega)
                                                            have h7 : (g3 28 4).toInt = ar5.toInt + 1 := by rw [e3, x_up2_off (Or.inr (by decide)), e2, x_up2_at]; exact hz
                                                            have h8 : (g3 28 5).toInt = ar5.toInt := by rw [e3, x_up2_at]
                                                            have hq := q4 P hc2 hb hp h1 h2 h3 h4 (by decide) (by omega) (by rw [h7]; omega)
                                                            rw [h7, h8, Int.zero_add] at hq
                                                            have hle := s_BB_le hq
                                                            constructor
                                                            · intro h; exact hle.mp (by omega)
                                                            · intro h; have h9 := hle.mpr h; omega))⟩⟩
noncomputable def wl_d_slack : List (Nat × Nat) := [(0, 0), (28, 0), (28, 1), (28, 4), (28, 5), (29, 0), (30, 9999), (31, 9999), (32, 9999), (33, 9999), (34, 9999), (35, 0), (36, 9999), (37, 9999), (38, 9999), (39, 9999), (40, 9999)]
noncomputable def Q_d_slack (gi : Nat → Nat → Int32) (gl : Nat → Nat → Int64) (gr : Nat → Nat → Value) (ar1 : Int32) : Int32 → (Nat → Nat → Int32) → (Nat → Nat → Int64) → (Nat → Nat → Value) → Prop := fun (v : Int32) (gi2 : Nat → Nat → Int32) (gl2 : Nat → Nat → Int64) (gr2 : Nat → Nat → Value) => ∀ (u : Nat) (D : s_D), gr 0 6 = .ref u → t_VL gr u → t_CV gi gl u D → t_Cb D → (u = 3 ∨ 102 ≤ u) → (∀ s : Nat, (s : Int) < D 1 → 0 ≤ D (56 + 5 * s) ∧ D (56 + 5 * s) ≤ 1) → s_DB D → ((0 ≤ ar1.toInt ∧ ar1.toInt < D 1 ∧ (s_LS (s_PD D (D 4)) 0 0 0 0) < 1000000000) → v.toInt = ((s_lg (s_sf D ar1.toInt) (s_LS (s_PD D (D 4)) 0 0 0 0) 60 : Nat) : Int)) ∧ (¬ (0 ≤ ar1.toInt ∧ ar1.toInt < D 1 ∧ (s_LS (s_PD D (D 4)) 0 0 0 0) < 1000000000) → v.toInt = -1)
theorem c_d_slack {X : x_Ext} {d : Nat} {sh : List (Nat ⊕ (Nat × Nat))} {gi : Nat → Nat → Int32} {gl : Nat → Nat → Int64} {gr : Nat → Nat → Value} (hI : t_I sh gi gr) (ar1 : Int32) : x_Me X (d + 19) n_X11_slack [.ref 0, .int ar1] (sh, gi, gl, gr) (t_PI wl_d_slack sh gi gl gr (-1) 60 (Q_d_slack gi gl gr ar1)) := by
  have hX : t_X wl_d_slack sh gi gl gr gi gl gr := t_X.rf
  refine me_i f_X11_slack (hI.wf.s rfl) rfl rfl rfl ?_
  refine ev_loc f_X11_slack (nx := 1) rfl rfl rfl rfl ?_
  refine ev_loc f_X11_slack (nx := 2) rfl rfl rfl rfl ?_
  refine ev_inV2 f_X11_slack (nx := 5) (lo2 := [(0, .ref 0), (1, .int ar1)]) rfl rfl rfl rfl f_X11_isShip (hI.wf.s rfl) rfl rfl rfl rfl rfl ?_
  refine ev_loc f_X11_isShip (nx := 1) rfl rfl rfl rfl ?_
  refine ev_if f_X11_isShip (t1 := 22) (t2 := 4) rfl rfl rfl (fun h1 => ?_) (fun h1 => ?_)
  · have u2 : ar1.toInt ≤ (-1) := t_ltu h1 (by decide : (0:Int32).toInt ≤ (0:Int)) rfl
    refine ev_ic f_X11_isShip (nx := 23) (v := 0) rfl (by decide) rfl ?_
    refine ev_retK1 f_X11_isShip rfl rfl rfl ?_
    refine ev_t f_X11_slack (t1 := 8) (t2 := 14) rfl rfl rfl (by decide) ?_
    refine ev_loc f_X11_slack (nx := 9) rfl rfl rfl rfl ?_
    refine ev_ic f_X11_slack (nx := 10) (v := 1) rfl (by decide) rfl ?_
    refine ev_inV2 f_X11_slack (nx := 13) (lo2 := [(0, .ref 0), (1, .int 1)]) rfl rfl rfl rfl f_X11_refuse (hI.wf.s rfl) rfl rfl rfl rfl rfl ?_
    refine ev_loc f_X11_refuse (nx := 1) rfl rfl rfl rfl ?_
    refine ev_loc f_X11_refuse (nx := 2) rfl rfl rfl rfl ?_
    refine ev_putIT f_X11_refuse (nx := 5) rfl (hI.wf.s rfl) rfl rfl rfl (hI.put0 (hI.wf.s rfl) rfl rfl) (hX.upI rfl) (fun g3 e3 hI hX => ?_)
    refine ev_ic f_X11_refuse (nx := 6) (v := -1) rfl (by decide) rfl ?_
    refine ev_retK1 f_X11_refuse rfl rfl rfl ?_
    exact ev_ret f_X11_slack rfl rfl rfl ⟨_, _, _, rfl, hI, hX, ⟨_, rfl, (by decide : ((-1):Int) ≤ ((-1):Int32).toInt), (Int.le_trans (by decide : ((-1):Int32).toInt ≤ ((-1):Int)) (by decide : ((-1):Int) ≤ 60)), (show ∀ (u : Nat) (D : s_D), gr 0 6 = .ref u → t_VL gr u → t_CV gi gl u D → t_Cb D → (u = 3 ∨ 102 ≤ u) → (∀ s : Nat, (s : Int) < D 1 → 0 ≤ D (56 + 5 * s) ∧ D (56 + 5 * s) ≤ 1) → s_DB D → ((0 ≤ ar1.toInt ∧ ar1.toInt < D 1 ∧ (s_LS (s_PD D (D 4)) 0 0 0 0) < 1000000000) → ((-1) : Int) = ((s_lg (s_sf D ar1.toInt) (s_LS (s_PD D (D 4)) 0 0 0 0) 60 : Nat) : Int)) ∧ (¬ (0 ≤ ar1.toInt ∧ ar1.toInt < D 1 ∧ (s_LS (s_PD D (D 4)) 0 0 0 0) < 1000000000) → ((-1) : Int) = -1) from (by
                                                            intro u D hu hl hc hb hv hsl hd
                                                            have hL := hc.2.2.1.1
                                                            exact ⟨fun h => absurd (And.intro h.1 h.2.1) (by omega), fun _ => rfl⟩))⟩⟩
  · have l4 : 0 ≤ ar1.toInt := t_lel (t_nlt h1) (by decide : (0:Int) ≤ (0:Int32).toInt)
    refine ev_loc f_X11_isShip (nx := 5) rfl rfl rfl rfl ?_
    refine ev_loc f_X11_isShip (nx := 6) rfl rfl rfl rfl ?_
    obtain ⟨a5, e5, p5⟩ := hI.2.2.2.1.1
    refine ev_getR f_X11_isShip (nx := 9) rfl (hI.wf.s rfl) rfl rfl e5 rfl rfl ?_
    obtain ⟨a6, e6, p6⟩ := p5.2.2.2.2.1
    refine ev_getR f_X11_isShip (nx := 12) rfl p5.1 rfl rfl e6 rfl rfl ?_
    refine ev_getI f_X11_isShip (nx := 15) rfl p6.1 rfl rfl rfl ?_
    obtain ⟨l7, u7⟩ := hI.b p6.1 (t_bdK rfl : t_bd 3 0 = some (0, 6))
    refine ev_if f_X11_isShip (t1 := 22) (t2 := 18) rfl rfl rfl (fun h8 => ?_) (fun h8 => ?_)
    · have r9 : (gi a6 0).toInt ≤ ar1.toInt := Int32.le_iff_toInt_le.mp h8
      refine ev_ic f_X11_isShip (nx := 23) (v := 0) rfl (by decide) rfl ?_
      refine ev_retK1 f_X11_isShip rfl rfl rfl ?_
      refine ev_t f_X11_slack (t1 := 8) (t2 := 14) rfl rfl rfl (by decide) ?_
      refine ev_loc f_X11_slack (nx := 9) rfl rfl rfl rfl ?_
      refine ev_ic f_X11_slack (nx := 10) (v := 1) rfl (by decide) rfl ?_
      refine ev_inV2 f_X11_slack (nx := 13) (lo2 := [(0, .ref 0), (1, .int 1)]) rfl rfl rfl rfl f_X11_refuse (hI.wf.s rfl) rfl rfl rfl rfl rfl ?_
      refine ev_loc f_X11_refuse (nx := 1) rfl rfl rfl rfl ?_
      refine ev_loc f_X11_refuse (nx := 2) rfl rfl rfl rfl ?_
      refine ev_putIT f_X11_refuse (nx := 5) rfl (hI.wf.s rfl) rfl rfl rfl (hI.put0 (hI.wf.s rfl) rfl rfl) (hX.upI rfl) (fun g10 e10 hI hX => ?_)
      refine ev_ic f_X11_refuse (nx := 6) (v := -1) rfl (by decide) rfl ?_
      refine ev_retK1 f_X11_refuse rfl rfl rfl ?_
      exact ev_ret f_X11_slack rfl rfl rfl ⟨_, _, _, rfl, hI, hX, ⟨_, rfl, (by decide : ((-1):Int) ≤ ((-1):Int32).toInt), (Int.le_trans (by decide : ((-1):Int32).toInt ≤ ((-1):Int)) (by decide : ((-1):Int) ≤ 60)), (show ∀ (u : Nat) (D : s_D), gr 0 6 = .ref u → t_VL gr u → t_CV gi gl u D → t_Cb D → (u = 3 ∨ 102 ≤ u) → (∀ s : Nat, (s : Int) < D 1 → 0 ≤ D (56 + 5 * s) ∧ D (56 + 5 * s) ≤ 1) → s_DB D → ((0 ≤ ar1.toInt ∧ ar1.toInt < D 1 ∧ (s_LS (s_PD D (D 4)) 0 0 0 0) < 1000000000) → ((-1) : Int) = ((s_lg (s_sf D ar1.toInt) (s_LS (s_PD D (D 4)) 0 0 0 0) 60 : Nat) : Int)) ∧ (¬ (0 ≤ ar1.toInt ∧ ar1.toInt < D 1 ∧ (s_LS (s_PD D (D 4)) 0 0 0 0) < 1000000000) → ((-1) : Int) = -1) from (by
                                                            intro u D hu hl hc hb hv hsl hd
                                                            have ha : a5 = u := Value.ref.inj (e5.symm.trans hu)
                                                            subst ha
                                                            have hb1 : (a5 + 3) = a6 := Value.ref.inj ((hl.1.2.2.2.1).symm.trans e6)
                                                            subst hb1
                                                            have hL := hc.2.2.1.1
                                                            exact ⟨fun h => absurd (And.intro h.1 h.2.1) (by omega), fun _ => rfl⟩))⟩⟩
    · have r11 : ar1.toInt < (gi a6 0).toInt := Int32.lt_iff_toInt_lt.mp (t_nle h8)
      have u12 : ar1.toInt ≤ 5 := t_ltu (t_nle h8) u7 rfl
      have l13 : 1 ≤ (gi a6 0).toInt := t_ltl (t_nle h8) l4 rfl
      refine ev_ic f_X11_isShip (nx := 19) (v := 1) rfl (by decide) rfl ?_
      refine ev_jmp f_X11_isShip (nx := 23) rfl rfl rfl ?_
      refine ev_retK1 f_X11_isShip rfl rfl rfl ?_
      refine ev_f f_X11_slack (t1 := 8) (t2 := 14) rfl rfl rfl (by decide) ?_
      refine ev_loc f_X11_slack (nx := 15) rfl rfl rfl rfl ?_
      refine ev_inV1 f_X11_slack (nx := 18) (lo2 := [(0, .ref 0)]) rfl rfl rfl rfl f_X11_leastAsTold (hI.wf.s rfl) rfl rfl rfl rfl rfl ?_
      refine ev_loc f_X11_leastAsTold (nx := 1) rfl rfl rfl rfl ?_
      refine ev_getR f_X11_leastAsTold (nx := 4) rfl (hI.wf.s rfl) rfl rfl (hI.wf.r rfl) rfl rfl ?_
      refine ev_loc f_X11_leastAsTold (nx := 5) rfl rfl rfl rfl ?_
      refine ev_getR f_X11_leastAsTold (nx := 8) (v := .ref a5) rfl (hI.wf.s rfl) rfl rfl e5 rfl rfl ?_
      refine ev_qN f_X11_leastAsTold (nx := 11) (r := []) rfl rfl rfl rfl rfl rfl rfl (c_d_takeAll hI (a5) p5) rfl hX rfl (fun gi14 gl14 gr14 hI hX hC14 q14 => ?_)
      have q14 : ∀ D : s_D, t_VL gr a5 → t_CV gi gl a5 D → (a5 = 3 ∨ 102 ≤ a5) → t_Cb D → (∀ s : Nat, (s : Int) < D 1 → 0 ≤ D (56 + 5 * s) ∧ D (56 + 5 * s) ≤ 1) → s_CP (s_PD D (D 4)) gi14 gr14 ∧ gr14 28 0 = .ref a5 ∧ t_CV gi14 gl14 a5 D ∧ (gi14 28 1).toInt = D 4 := q14
      replace p5 := p5.ext hC14.2
      replace p6 := p6.ext hC14.2
      refine ev_loc f_X11_leastAsTold (nx := 12) rfl rfl rfl rfl ?_
      refine ev_getR f_X11_leastAsTold (nx := 15) rfl (hI.wf.s rfl) rfl rfl (hI.wf.r rfl) rfl rfl ?_
      refine ev_qI f_X11_leastAsTold (nx := 18) (r := []) rfl rfl rfl rfl rfl rfl rfl (c_d_leastWaits hI ) rfl hX rfl (fun w15 gi15 gl15 gr15 l15 u15 hI hX hC15 q15 => ?_)
      have q15 : ∀ P : Nat → Nat → Int, s_CP P gi14 gr14 → s_PB P → s_PO P → w15.toInt = s_LS P 0 0 0 0 := q15
      replace p5 := p5.ext hC15.2
      replace p6 := p6.ext hC15.2
      refine ev_retK1 f_X11_leastAsTold rfl rfl rfl ?_
      refine ev_loc f_X11_slack (nx := 19) (lo' := [(2, .int w15), (0, .ref 0), (1, .int ar1)]) rfl rfl rfl rfl ?_
      refine ev_loc f_X11_slack (nx := 20) rfl rfl rfl rfl ?_
      refine ev_ldW f_X11_slack (nx := 23) (v := 1000000000) rfl (by decide) rfl ?_
      refine ev_if f_X11_slack (t1 := 33) (t2 := 26) rfl rfl rfl (fun h16 => ?_) (fun h16 => ?_)
      · have u17 : w15.toInt ≤ 999999999 := t_ltu h16 (by decide : (1000000000:Int32).toInt ≤ (1000000000:Int)) rfl
        refine ev_bp f_X11_slack (nx := 35) (v := 60) rfl (by decide) rfl ?_
        refine ev_loc f_X11_slack (nx := 36) (lo' := [(3, .int 60), (2, .int w15), (0, .ref 0), (1, .int ar1)]) rfl rfl rfl rfl ?_
        have L18 : ∀ (m18 : Nat) (gi18 : Nat → Nat → Int32) (gl18 : Nat → Nat → Int64) (gr18 : Nat → Nat → Value) (y18_3 : Int32), t_I sh gi18 gr18 → t_X wl_d_slack sh gi gl gr gi18 gl18 gr18 → t_Rv sh gr18 a5 → t_Ln sh gr18 a6 → 0 ≤ y18_3.toInt → y18_3.toInt ≤ 60 → gr18 a5 7 = .ref a6 → gr18 0 6 = .ref a5 → (∀ (u : Nat) (D : s_D), gr 0 6 = .ref u → t_VL gr u → t_CV gi gl u D → t_Cb D → (u = 3 ∨ 102 ≤ u) → (∀ s : Nat, (s : Int) < D 1 → 0 ≤ D (56 + 5 * s) ∧ D (56 + 5 * s) ≤ 1) → s_DB D → s_KP D u gi18 gr18 ∧ w15.toInt = (s_LS (s_PD D (D 4)) 0 0 0 0) ∧ ((s_lg (s_sf D ar1.toInt) (s_LS (s_PD D (D 4)) 0 0 0 0) 60 : Nat) : Int) = ((s_lg (s_sf D ar1.toInt) (s_LS (s_PD D (D 4)) 0 0 0 0) y18_3.toNatClampNeg : Nat) : Int) ∧ 0 ≤ ar1.toInt ∧ ar1.toInt < D 1) → (y18_3.toInt - 0).toNat = m18 → x_Ev X (d + 19) n_X11_slack 36 [(3, .int y18_3), (2, .int w15), (0, .ref 0), (1, .int ar1)] [] (sh, gi18, gl18, gr18) (t_PI wl_d_slack sh gi gl gr (-1) 60 (Q_d_slack gi gl gr ar1)) := by
          intro m18
          induction m18 using Nat.strongRecOn with
          | _ m18 ih18 =>
          intro gi18 gl18 gr18 y18_3 hI hX p5 p6 l18_3 u18_3 c18_0 c18_1 j18_0 hm18
          refine ev_loc f_X11_slack (nx := 37) rfl rfl rfl rfl ?_
          have hXh := hX
          refine ev_if f_X11_slack (t1 := 77) (t2 := 40) rfl rfl rfl (fun h19 => ?_) (fun h19 => ?_)
          · have u20 : y18_3.toInt ≤ 0 := t_leu h19 (by decide : (0:Int32).toInt ≤ (0:Int))
            refine ev_loc f_X11_slack (nx := 78) rfl rfl rfl rfl ?_
            refine ev_ic f_X11_slack (nx := 79) (v := 0) rfl (by decide) rfl ?_
            refine ev_inV2 f_X11_slack (nx := 82) (lo2 := [(0, .ref 0), (1, .int 0)]) rfl rfl rfl rfl f_X11_answer (hI.wf.s rfl) rfl rfl rfl rfl rfl ?_
            refine ev_loc f_X11_answer (nx := 1) rfl rfl rfl rfl ?_
            refine ev_ic f_X11_answer (nx := 2) (v := 0) rfl (by decide) rfl ?_
            refine ev_putIT f_X11_answer (nx := 5) rfl (hI.wf.s rfl) rfl rfl rfl (hI.put0 (hI.wf.s rfl) rfl rfl) (hX.upI rfl) (fun g21 e21 hI hX => ?_)
            refine ev_loc f_X11_answer (nx := 6) rfl rfl rfl rfl ?_
            refine ev_retK1 f_X11_answer rfl rfl rfl ?_
            exact ev_ret f_X11_slack rfl rfl rfl ⟨_, _, _, rfl, hI, hX, ⟨_, rfl, (Int.le_trans (by decide : ((-1):Int) ≤ 0) (by decide : (0:Int) ≤ (0:Int32).toInt)), (Int.le_trans (by decide : (0:Int32).toInt ≤ (0:Int)) (by decide : (0:Int) ≤ 60)), (show ∀ (u : Nat) (D : s_D), gr 0 6 = .ref u → t_VL gr u → t_CV gi gl u D → t_Cb D → (u = 3 ∨ 102 ≤ u) → (∀ s : Nat, (s : Int) < D 1 → 0 ≤ D (56 + 5 * s) ∧ D (56 + 5 * s) ≤ 1) → s_DB D → ((0 ≤ ar1.toInt ∧ ar1.toInt < D 1 ∧ (s_LS (s_PD D (D 4)) 0 0 0 0) < 1000000000) → (0 : Int) = ((s_lg (s_sf D ar1.toInt) (s_LS (s_PD D (D 4)) 0 0 0 0) 60 : Nat) : Int)) ∧ (¬ (0 ≤ ar1.toInt ∧ ar1.toInt < D 1 ∧ (s_LS (s_PD D (D 4)) 0 0 0 0) < 1000000000) → (0 : Int) = -1) from (by
                                                            intro u D hu hl hc hb hv hsl hd
                                                            obtain ⟨g1, g2, g3, g4, g5⟩ := j18_0 u D hu hl hc hb hv hsl hd
                                                            have hr := s_lg_0 g3 (by omega) (by omega)
                                                            exact ⟨fun _ => hr.symm, fun h => absurd (show _ from ⟨g4, g5, by omega⟩) h⟩))⟩⟩
          · have l22 : 1 ≤ y18_3.toInt := t_ltl (t_nle h19) (by decide : (0:Int) ≤ (0:Int32).toInt) rfl
            refine ev_loc f_X11_slack (nx := 41) rfl rfl rfl rfl ?_
            refine ev_getR f_X11_slack (nx := 44) rfl (hI.wf.s rfl) rfl rfl (hI.wf.r rfl) rfl rfl ?_
            refine ev_loc f_X11_slack (nx := 45) rfl rfl rfl rfl ?_
            refine ev_getR f_X11_slack (nx := 48) (v := .ref a5) rfl (hI.wf.s rfl) rfl rfl c18_1 rfl rfl ?_
            refine ev_ic f_X11_slack (nx := 49) (v := 0) rfl (by decide) rfl ?_
            refine ev_loc f_X11_slack (nx := 50) rfl rfl rfl rfl ?_
            refine ev_loc f_X11_slack (nx := 51) rfl rfl rfl rfl ?_
            refine ev_qN f_X11_slack (nx := 54) (r := []) rfl rfl rfl rfl rfl rfl rfl (c_d_takeShipsG hI (a5) p5 (0) (ar1) (y18_3) (Int.le_trans (by decide : (0:Int) ≤ 1) l22) (Int.le_trans u18_3 (by decide : (60:Int) ≤ 500))) rfl hX rfl (fun gi23 gl23 gr23 hI hX hC23 q23 => ?_)
            have q23 : ∀ D : s_D, t_VL gr18 a5 → t_CV gi18 gl18 a5 D → (a5 = 3 ∨ 102 ≤ a5) → t_Cb D → s_DB D → (∀ s : Nat, (s : Int) < D 1 → 0 ≤ D (56 + 5 * s) ∧ D (56 + 5 * s) ≤ 1) → (gi23 29 0).toInt = ((s_fn (s_mk (0 : Int32)) (D 1).toNat : Nat) : Int) ∧ s_RF (s_ff (s_Al (s_A D) ar1.toInt y18_3.toInt) (s_mk (0 : Int32)) (D 1).toNat) (fun k => (k : Int)) (gi23 30) (s_fn (s_mk (0 : Int32)) (D 1).toNat) ∧ s_RF (s_ff (s_Al (s_A D) ar1.toInt y18_3.toInt) (s_mk (0 : Int32)) (D 1).toNat) (s_Al (s_A D) ar1.toInt y18_3.toInt) (gi23 31) (s_fn (s_mk (0 : Int32)) (D 1).toNat) ∧ s_RF (s_ff (s_Al (s_A D) ar1.toInt y18_3.toInt) (s_mk (0 : Int32)) (D 1).toNat) (fun k => D (54 + 5 * k)) (gi23 32) (s_fn (s_mk (0 : Int32)) (D 1).toNat) ∧ s_RF (s_ff (s_Al (s_A D) ar1.toInt y18_3.toInt) (s_mk (0 : Int32)) (D 1).toNat) (fun k => D (55 + 5 * k)) (gi23 33) (s_fn (s_mk (0 : Int32)) (D 1).toNat) ∧ s_RF (s_ff (s_Al (s_A D) ar1.toInt y18_3.toInt) (s_mk (0 : Int32)) (D 1).toNat) (fun k => D (56 + 5 * k)) (gi23 34) (s_fn (s_mk (0 : Int32)) (D 1).toNat) := q23
            replace p6 := p6.ext hC23.2
            replace p5 := p5.ext hC23.2
            refine ev_loc f_X11_slack (nx := 55) rfl rfl rfl rfl ?_
            have hXi := hX
            refine ev_getR f_X11_slack (nx := 58) rfl (hI.wf.s rfl) rfl rfl (hI.wf.r rfl) rfl rfl ?_
            refine ev_loc f_X11_slack (nx := 59) rfl rfl rfl rfl ?_
            refine ev_inV2 f_X11_slack (nx := 62) (lo2 := [(0, .ref 28), (1, .int w15)]) rfl rfl rfl rfl f_X1_canPassWithin (hI.wf.s rfl) rfl rfl rfl rfl rfl ?_
            refine ev_loc f_X1_canPassWithin (nx := 1) rfl rfl rfl rfl ?_
            refine ev_ic f_X1_canPassWithin (nx := 2) (v := 0) rfl (by decide) rfl ?_
            refine ev_ic f_X1_canPassWithin (nx := 3) (v := 0) rfl (by decide) rfl ?_
            refine ev_ic f_X1_canPassWithin (nx := 4) (v := 0) rfl (by decide) rfl ?_
            refine ev_ic f_X1_canPassWithin (nx := 5) (v := 0) rfl (by decide) rfl ?_
            refine ev_loc f_X1_canPassWithin (nx := 6) rfl rfl rfl rfl ?_
            refine ev_qI f_X1_canPassWithin (nx := 9) (r := []) rfl rfl rfl rfl rfl rfl rfl (c_d_canEndWithin hI (0) (0) (by decide : (0:Int) ≤ (0:Int32).toInt) (Int.le_trans (by decide : (0:Int32).toInt ≤ (0:Int)) (by decide : (0:Int) ≤ 1)) (0) (by decide : (0:Int) ≤ (0:Int32).toInt) (Int.le_trans (by decide : (0:Int32).toInt ≤ (0:Int)) (by decide : (0:Int) ≤ 6)) (0) (by decide : (0:Int) ≤ (0:Int32).toInt) (Int.le_trans (by decide : (0:Int32).toInt ≤ (0:Int)) (by decide : (0:Int) ≤ 6)) (w15)) rfl hX rfl (fun w24 gi24 gl24 gr24 l24 u24 hI hX hC24 q24 => ?_)
            have q24 : ∀ P : Nat → Nat → Int, s_CP P gi23 gr23 → s_PB P → s_PO P → 0 ≤ (0 : Int) → (0 : Int) ≤ 2000 → (0 : Int) ≤ P 0 0 → (0 : Int) ≤ P 0 1 → 0 ≤ w15.toInt → w15.toInt ≤ 999999999 → (w24.toInt = 1 ↔ s_LS P (0 : Int) (0 : Int32).toNatClampNeg (0 : Int32).toNatClampNeg (0 : Int32).toNatClampNeg ≤ w15.toInt) := q24
            replace p6 := p6.ext hC24.2
            replace p5 := p5.ext hC24.2
            refine ev_retK1 f_X1_canPassWithin rfl rfl (t_rz l24 u24) ?_
            refine ev_if f_X11_slack (t1 := 71) (t2 := 65) rfl rfl rfl (fun h25 => ?_) (fun h25 => ?_)
            · have u26 : w24.toInt ≤ 0 := t_equ h25 (by decide : (0:Int32).toInt ≤ (0:Int))
              refine ev_incR f_X11_slack (nx := 74) (c := (-1)) (l := 0) (u := 59) rfl rfl (by decide) (by decide) l22 u18_3 rfl rfl (by decide) (by decide) rfl (fun z27 e27 l27 u27 => ?_)
              refine ev_jmp f_X11_slack (nx := 36) rfl rfl rfl ?_
              refine ev_sub (lo := [(3, .int z27), (2, .int w15), (0, .ref 0), (1, .int ar1)]) rfl (t_sc rfl (t_sc rfl (t_sc rfl (t_sc rfl t_sn)))) ?_
              exact ih18 _ (by omega) gi24 gl24 gr24 (z27) hI hX p5 p6 l27 (Int.le_trans u27 (by decide : (59:Int) ≤ 60)) ((hC24.1 a5 7 (t_ninO hI.wf p5.1 (t_outO hI.wf p5.1 rfl) rfl)).2.2.trans ((hC23.1 a5 7 (t_ninO hI.wf p5.1 (t_outO hI.wf p5.1 rfl) rfl)).2.2.trans c18_0)) ((hC24.1 0 6 rfl).2.2.trans ((hC23.1 0 6 rfl).2.2.trans c18_1)) (by
                                                            intro u D hu hl hc hb hv hsl hd
                                                            obtain ⟨g1, g2, g3, g4, g5⟩ := j18_0 u D hu hl hc hb hv hsl hd
                                                            have hun : gr18 0 6 = .ref u := ((t_F_X hXh) 0 6 (by decide) rfl).2.2.trans hu
                                                            have ha := Value.ref.inj (c18_1.symm.trans hun)
                                                            subst ha
                                                            have hKh := t_nd_fr hXh rfl
                                                            have hlh := hl.fr (fun K k1 k2 => hKh K (by omega))
                                                            have hch := hc.fr (fun K k1 k2 => hKh K (by omega))
                                                            have hs := q23 D hlh hch hv hb hd hsl
                                                            have hKi := t_nd_fr hXi rfl
                                                            have hci := hc.fr (fun K k1 k2 => hKi K (by omega))
                                                            have c1 := t_clamp (i := y18_3) (by omega)
                                                            have hAb := s_Al_b (w := ar1.toInt) (l := y18_3.toInt) hd (by omega) (by omega)
                                                            have hcp := (g1.fr hC23 rfl).cp hv hci hs.1 hs.2.2.1 hs.2.2.2.1 hs.2.2.2.2.1 hs.2.2.2.2.2
                                                            have hPO := s_PX_O (q := D 4) (m := 0) (x := -1) hb hd hd.2.2.1.1 hAb.1
                                                            have hPB := s_PX_B (q := D 4) (m := 0) (x := -1) hb hd ⟨hd.2.2.1.1, hd.2.2.1.2⟩ hAb.2
                                                            have hlo := s_LS_lo (s_PD_O hb hd hd.2.2.1.1) 0 0 0 0
                                                            have hcw := q24 _ hcp hPB hPO (by decide) (by decide) hPB.1.1 hPB.1.2.2.1 (by omega) (by omega)
                                                            rw [← c1, g2] at hcw
                                                            have hno : ¬ s_sf _ ar1.toInt y18_3.toNatClampNeg ≤ _ := fun hh => by have h9 := hcw.mpr hh; omega
                                                            exact ⟨(g1.fr hC23 rfl).fr hC24 rfl, g2, s_lg_dn g3 (by omega) hno (by omega), g4, g5⟩) rfl
            · have r28 : w24.toInt ≠ 0 := fun e => h25 (Int32.toInt_inj.mp (e.trans (by decide : (0:Int) = (0 : Int32).toInt)))
              have l29 : 1 ≤ w24.toInt := t_nel h25 l24 rfl rfl
              refine ev_loc f_X11_slack (nx := 66) rfl rfl rfl rfl ?_
              refine ev_loc f_X11_slack (nx := 67) rfl rfl rfl rfl ?_
              refine ev_inV2 f_X11_slack (nx := 70) (lo2 := [(0, .ref 0), (1, .int y18_3)]) rfl rfl rfl rfl f_X11_answer (hI.wf.s rfl) rfl rfl rfl rfl rfl ?_
              refine ev_loc f_X11_answer (nx := 1) rfl rfl rfl rfl ?_
              refine ev_ic f_X11_answer (nx := 2) (v := 0) rfl (by decide) rfl ?_
              refine ev_putIT f_X11_answer (nx := 5) rfl (hI.wf.s rfl) rfl rfl rfl (hI.put0 (hI.wf.s rfl) rfl rfl) (hX.upI rfl) (fun g30 e30 hI hX => ?_)
              refine ev_loc f_X11_answer (nx := 6) rfl rfl rfl rfl ?_
              refine ev_retK1 f_X11_answer rfl rfl rfl ?_
              exact ev_ret f_X11_slack rfl rfl rfl ⟨_, _, _, rfl, hI, hX, ⟨_, rfl, (Int.le_trans (by decide : ((-1):Int) ≤ 1) l22), u18_3, (show ∀ (u : Nat) (D : s_D), gr 0 6 = .ref u → t_VL gr u → t_CV gi gl u D → t_Cb D → (u = 3 ∨ 102 ≤ u) → (∀ s : Nat, (s : Int) < D 1 → 0 ≤ D (56 + 5 * s) ∧ D (56 + 5 * s) ≤ 1) → s_DB D → ((0 ≤ ar1.toInt ∧ ar1.toInt < D 1 ∧ (s_LS (s_PD D (D 4)) 0 0 0 0) < 1000000000) → y18_3.toInt = ((s_lg (s_sf D ar1.toInt) (s_LS (s_PD D (D 4)) 0 0 0 0) 60 : Nat) : Int)) ∧ (¬ (0 ≤ ar1.toInt ∧ ar1.toInt < D 1 ∧ (s_LS (s_PD D (D 4)) 0 0 0 0) < 1000000000) → y18_3.toInt = -1) from (by
                                                            intro u D hu hl hc hb hv hsl hd
                                                            obtain ⟨g1, g2, g3, g4, g5⟩ := j18_0 u D hu hl hc hb hv hsl hd
                                                            have hun : gr18 0 6 = .ref u := ((t_F_X hXh) 0 6 (by decide) rfl).2.2.trans hu
                                                            have ha := Value.ref.inj (c18_1.symm.trans hun)
                                                            subst ha
                                                            have hKh := t_nd_fr hXh rfl
                                                            have hlh := hl.fr (fun K k1 k2 => hKh K (by omega))
                                                            have hch := hc.fr (fun K k1 k2 => hKh K (by omega))
                                                            have hs := q23 D hlh hch hv hb hd hsl
                                                            have hKi := t_nd_fr hXi rfl
                                                            have hci := hc.fr (fun K k1 k2 => hKi K (by omega))
                                                            have c1 := t_clamp (i := y18_3) (by omega)
                                                            have hAb := s_Al_b (w := ar1.toInt) (l := y18_3.toInt) hd (by omega) (by omega)
                                                            have hcp := (g1.fr hC23 rfl).cp hv hci hs.1 hs.2.2.1 hs.2.2.2.1 hs.2.2.2.2.1 hs.2.2.2.2.2
                                                            have hPO := s_PX_O (q := D 4) (m := 0) (x := -1) hb hd hd.2.2.1.1 hAb.1
                                                            have hPB := s_PX_B (q := D 4) (m := 0) (x := -1) hb hd ⟨hd.2.2.1.1, hd.2.2.1.2⟩ hAb.2
                                                            have hlo := s_LS_lo (s_PD_O hb hd hd.2.2.1.1) 0 0 0 0
                                                            have hcw := q24 _ hcp hPB hPO (by decide) (by decide) hPB.1.1 hPB.1.2.2.1 (by omega) (by omega)
                                                            rw [← c1, g2] at hcw
                                                            have hyes : s_sf _ ar1.toInt y18_3.toNatClampNeg ≤ _ := hcw.mp (by omega)
                                                            have hr := s_lg_at g3 (by omega) hyes
                                                            exact ⟨fun _ => hr.symm, fun h => absurd (show _ from ⟨g4, g5, by omega⟩) h⟩))⟩⟩
        refine ev_sub (lo := [(3, .int 60), (2, .int w15), (0, .ref 0), (1, .int ar1)]) rfl (t_sc rfl (t_sc rfl (t_sc rfl (t_sc rfl t_sn)))) ?_
        exact L18 _ gi15 gl15 gr15 (60) hI hX p5 p6 (Int.le_trans (by decide : (0:Int) ≤ 60) (by decide : (60:Int) ≤ (60:Int32).toInt)) (by decide : (60:Int32).toInt ≤ (60:Int)) ((hC15.1 a5 7 (t_ninO hI.wf p5.1 (t_outO hI.wf p5.1 rfl) rfl)).2.2.trans ((hC14.1 a5 7 (t_ninO hI.wf p5.1 (t_outO hI.wf p5.1 rfl) rfl)).2.2.trans e6)) ((hC15.1 0 6 rfl).2.2.trans ((hC14.1 0 6 rfl).2.2.trans e5)) (by
                                                            intro u D hu hl hc hb hv hsl hd
                                                            have ha : a5 = u := Value.ref.inj (e5.symm.trans hu)
                                                            subst ha
                                                            have hb1 : (a5 + 3) = a6 := Value.ref.inj ((hl.1.2.2.2.1).symm.trans e6)
                                                            subst hb1
                                                            have hL := hc.2.2.1.1
                                                            have hq := q14 D hl hc hv hb hsl
                                                            have hq2 := q15 _ hq.1 (s_PD_B hb hd ⟨hd.2.2.1.1, hd.2.2.1.2⟩) (s_PD_O hb hd hd.2.2.1.1)
                                                            exact ⟨(s_KP_of hq.1 hq.2.1 hq.2.2.2).fr hC15 rfl, hq2, rfl, by omega, by omega⟩) rfl
      · have l31 : 1000000000 ≤ w15.toInt := t_lel (t_nlt h16) (by decide : (1000000000:Int) ≤ (1000000000:Int32).toInt)
        refine ev_loc f_X11_slack (nx := 27) rfl rfl rfl rfl ?_
        refine ev_bp f_X11_slack (nx := 29) (v := 6) rfl (by decide) rfl ?_
        refine ev_inV2 f_X11_slack (nx := 32) (lo2 := [(0, .ref 0), (1, .int 6)]) rfl rfl rfl rfl f_X11_refuse (hI.wf.s rfl) rfl rfl rfl rfl rfl ?_
        refine ev_loc f_X11_refuse (nx := 1) rfl rfl rfl rfl ?_
        refine ev_loc f_X11_refuse (nx := 2) rfl rfl rfl rfl ?_
        refine ev_putIT f_X11_refuse (nx := 5) rfl (hI.wf.s rfl) rfl rfl rfl (hI.put0 (hI.wf.s rfl) rfl rfl) (hX.upI rfl) (fun g32 e32 hI hX => ?_)
        refine ev_ic f_X11_refuse (nx := 6) (v := -1) rfl (by decide) rfl ?_
        refine ev_retK1 f_X11_refuse rfl rfl rfl ?_
        exact ev_ret f_X11_slack rfl rfl rfl ⟨_, _, _, rfl, hI, hX, ⟨_, rfl, (by decide : ((-1):Int) ≤ ((-1):Int32).toInt), (Int.le_trans (by decide : ((-1):Int32).toInt ≤ ((-1):Int)) (by decide : ((-1):Int) ≤ 60)), (show ∀ (u : Nat) (D : s_D), gr 0 6 = .ref u → t_VL gr u → t_CV gi gl u D → t_Cb D → (u = 3 ∨ 102 ≤ u) → (∀ s : Nat, (s : Int) < D 1 → 0 ≤ D (56 + 5 * s) ∧ D (56 + 5 * s) ≤ 1) → s_DB D → ((0 ≤ ar1.toInt ∧ ar1.toInt < D 1 ∧ (s_LS (s_PD D (D 4)) 0 0 0 0) < 1000000000) → ((-1) : Int) = ((s_lg (s_sf D ar1.toInt) (s_LS (s_PD D (D 4)) 0 0 0 0) 60 : Nat) : Int)) ∧ (¬ (0 ≤ ar1.toInt ∧ ar1.toInt < D 1 ∧ (s_LS (s_PD D (D 4)) 0 0 0 0) < 1000000000) → ((-1) : Int) = -1) from (by
                                                            intro u D hu hl hc hb hv hsl hd
                                                            have ha : a5 = u := Value.ref.inj (e5.symm.trans hu)
                                                            subst ha
                                                            have hb1 : (a5 + 3) = a6 := Value.ref.inj ((hl.1.2.2.2.1).symm.trans e6)
                                                            subst hb1
                                                            have hL := hc.2.2.1.1
                                                            have hq := q14 D hl hc hv hb hsl
                                                            have hq2 := q15 _ hq.1 (s_PD_B hb hd ⟨hd.2.2.1.1, hd.2.2.1.2⟩) (s_PD_O hb hd hd.2.2.1.1)
                                                            exact ⟨fun h => absurd h.2.2 (by omega), fun _ => rfl⟩))⟩⟩
/-! ===== printed by riv.py: slack: the other side ===== -/
noncomputable def wl_e_slack : List (Nat × Nat) := [(69, 2), (69, 44), (69, 45), (69, 48), (89, 10005), (89, 610011), (90, 9999), (91, 9999), (92, 9999)]
noncomputable def Q_e_slack (gi : Nat → Nat → Int32) (gl : Nat → Nat → Int64) (gr : Nat → Nat → Value) (ar1 : Int32) : Int32 → (Nat → Nat → Int32) → (Nat → Nat → Int64) → (Nat → Nat → Value) → Prop := fun (v : Int32) (gi2 : Nat → Nat → Int32) (gl2 : Nat → Nat → Int64) (gr2 : Nat → Nat → Value) => ∀ D : s_D, t_ME 0 gi D → t_Cb D → s_DB D → (gi 69 46).toInt = -1 → ((0 ≤ ar1.toInt ∧ ar1.toInt < D 1 ∧ (s_LS (s_PD D (D 4)) 0 0 0 0) < 1000000000) → v.toInt = ((s_lg (s_sf D ar1.toInt) (s_LS (s_PD D (D 4)) 0 0 0 0) 60 : Nat) : Int)) ∧ (¬ (0 ≤ ar1.toInt ∧ ar1.toInt < D 1 ∧ (s_LS (s_PD D (D 4)) 0 0 0 0) < 1000000000) → v.toInt = -1)
theorem c_e_slack {X : x_Ext} {d : Nat} {sh : List (Nat ⊕ (Nat × Nat))} {gi : Nat → Nat → Int32} {gl : Nat → Nat → Int64} {gr : Nat → Nat → Value} (hI : t_I sh gi gr) (ar1 : Int32) (e_p0 : 1 ≤ (gi 70 4).toInt) : x_Me X (d + 6) n_X12_slack [.ref 69, .int ar1] (sh, gi, gl, gr) (t_PI wl_e_slack sh gi gl gr (-1) 60 (Q_e_slack gi gl gr ar1)) := by
  have hX : t_X wl_e_slack sh gi gl gr gi gl gr := t_X.rf
  refine me_i f_X12_slack (hI.wf.s rfl) rfl rfl rfl ?_
  obtain ⟨l2, u2⟩ := hI.ab (by decide +kernel : t_abr 70 4 4 0 20 = true) (Nat.le_refl _) (Nat.le_refl _)
  refine ev_loc f_X12_slack (nx := 1) rfl rfl rfl rfl ?_
  refine ev_loc f_X12_slack (nx := 2) rfl rfl rfl rfl ?_
  refine ev_inV2 f_X12_slack (nx := 5) (lo2 := [(0, .ref 69), (1, .int ar1)]) rfl rfl rfl rfl f_X12_isShip (hI.wf.s rfl) rfl rfl rfl rfl rfl ?_
  refine ev_loc f_X12_isShip (nx := 1) rfl rfl rfl rfl ?_
  refine ev_if f_X12_isShip (t1 := 18) (t2 := 4) rfl rfl rfl (fun h3 => ?_) (fun h3 => ?_)
  · have u4 : ar1.toInt ≤ (-1) := t_ltu h3 (by decide : (0:Int32).toInt ≤ (0:Int)) rfl
    refine ev_ic f_X12_isShip (nx := 19) (v := 0) rfl (by decide) rfl ?_
    refine ev_retK1 f_X12_isShip rfl rfl rfl ?_
    refine ev_t f_X12_slack (t1 := 8) (t2 := 14) rfl rfl rfl (by decide) ?_
    refine ev_loc f_X12_slack (nx := 9) rfl rfl rfl rfl ?_
    refine ev_ic f_X12_slack (nx := 10) (v := 1) rfl (by decide) rfl ?_
    refine ev_inV2 f_X12_slack (nx := 13) (lo2 := [(0, .ref 69), (1, .int 1)]) rfl rfl rfl rfl f_X12_refuse (hI.wf.s rfl) rfl rfl rfl rfl rfl ?_
    refine ev_loc f_X12_refuse (nx := 1) rfl rfl rfl rfl ?_
    refine ev_loc f_X12_refuse (nx := 2) rfl rfl rfl rfl ?_
    refine ev_putIT f_X12_refuse (nx := 5) rfl (hI.wf.s rfl) rfl rfl rfl (hI.put0 (hI.wf.s rfl) rfl rfl) (hX.upI rfl) (fun g5 e5 hI hX => ?_)
    refine ev_ic f_X12_refuse (nx := 6) (v := -1) rfl (by decide) rfl ?_
    refine ev_retK1 f_X12_refuse rfl rfl rfl ?_
    exact ev_ret f_X12_slack rfl rfl rfl ⟨_, _, _, rfl, hI, hX, ⟨_, rfl, (by decide : ((-1):Int) ≤ ((-1):Int32).toInt), (Int.le_trans (by decide : ((-1):Int32).toInt ≤ ((-1):Int)) (by decide : ((-1):Int) ≤ 60)), (show ∀ D : s_D, t_ME 0 gi D → t_Cb D → s_DB D → (gi 69 46).toInt = -1 → ((0 ≤ ar1.toInt ∧ ar1.toInt < D 1 ∧ (s_LS (s_PD D (D 4)) 0 0 0 0) < 1000000000) → ((-1) : Int) = ((s_lg (s_sf D ar1.toInt) (s_LS (s_PD D (D 4)) 0 0 0 0) 60 : Nat) : Int)) ∧ (¬ (0 ≤ ar1.toInt ∧ ar1.toInt < D 1 ∧ (s_LS (s_PD D (D 4)) 0 0 0 0) < 1000000000) → ((-1) : Int) = -1) from (by
                                                            intro D hm hb hd h46
                                                            have ha : (gi 70 1).toInt = D 1 := hm.1.1.2.1
                                                            exact ⟨fun h => absurd (And.intro h.1 h.2.1) (by omega), fun _ => rfl⟩))⟩⟩
  · have l6 : 0 ≤ ar1.toInt := t_lel (t_nlt h3) (by decide : (0:Int) ≤ (0:Int32).toInt)
    refine ev_loc f_X12_isShip (nx := 5) rfl rfl rfl rfl ?_
    refine ev_loc f_X12_isShip (nx := 6) rfl rfl rfl rfl ?_
    refine ev_getR f_X12_isShip (nx := 9) rfl (hI.wf.s rfl) rfl rfl (hI.wf.r rfl) rfl rfl ?_
    refine ev_ic f_X12_isShip (nx := 10) (v := 1) rfl (by decide) rfl ?_
    obtain ⟨l7, u7⟩ := hI.ab (by decide +kernel : t_abr 70 1 1 0 6 = true) (Nat.le_refl _) (Nat.le_refl _)
    refine ev_ialdv f_X12_isShip (nx := 11) (w := (gi 70 1)) rfl (hI.wf.s rfl) (by decide) (rfl : (1 : Int32).toNatClampNeg = 1) (by decide) rfl rfl ?_
    refine ev_if f_X12_isShip (t1 := 18) (t2 := 14) rfl rfl rfl (fun h8 => ?_) (fun h8 => ?_)
    · have r9 : (gi 70 1).toInt ≤ ar1.toInt := Int32.le_iff_toInt_le.mp h8
      refine ev_ic f_X12_isShip (nx := 19) (v := 0) rfl (by decide) rfl ?_
      refine ev_retK1 f_X12_isShip rfl rfl rfl ?_
      refine ev_t f_X12_slack (t1 := 8) (t2 := 14) rfl rfl rfl (by decide) ?_
      refine ev_loc f_X12_slack (nx := 9) rfl rfl rfl rfl ?_
      refine ev_ic f_X12_slack (nx := 10) (v := 1) rfl (by decide) rfl ?_
      refine ev_inV2 f_X12_slack (nx := 13) (lo2 := [(0, .ref 69), (1, .int 1)]) rfl rfl rfl rfl f_X12_refuse (hI.wf.s rfl) rfl rfl rfl rfl rfl ?_
      refine ev_loc f_X12_refuse (nx := 1) rfl rfl rfl rfl ?_
      refine ev_loc f_X12_refuse (nx := 2) rfl rfl rfl rfl ?_
      refine ev_putIT f_X12_refuse (nx := 5) rfl (hI.wf.s rfl) rfl rfl rfl (hI.put0 (hI.wf.s rfl) rfl rfl) (hX.upI rfl) (fun g10 e10 hI hX => ?_)
      refine ev_ic f_X12_refuse (nx := 6) (v := -1) rfl (by decide) rfl ?_
      refine ev_retK1 f_X12_refuse rfl rfl rfl ?_
      exact ev_ret f_X12_slack rfl rfl rfl ⟨_, _, _, rfl, hI, hX, ⟨_, rfl, (by decide : ((-1):Int) ≤ ((-1):Int32).toInt), (Int.le_trans (by decide : ((-1):Int32).toInt ≤ ((-1):Int)) (by decide : ((-1):Int) ≤ 60)), (show ∀ D : s_D, t_ME 0 gi D → t_Cb D → s_DB D → (gi 69 46).toInt = -1 → ((0 ≤ ar1.toInt ∧ ar1.toInt < D 1 ∧ (s_LS (s_PD D (D 4)) 0 0 0 0) < 1000000000) → ((-1) : Int) = ((s_lg (s_sf D ar1.toInt) (s_LS (s_PD D (D 4)) 0 0 0 0) 60 : Nat) : Int)) ∧ (¬ (0 ≤ ar1.toInt ∧ ar1.toInt < D 1 ∧ (s_LS (s_PD D (D 4)) 0 0 0 0) < 1000000000) → ((-1) : Int) = -1) from (by
                                                            intro D hm hb hd h46
                                                            have ha : (gi 70 1).toInt = D 1 := hm.1.1.2.1
                                                            exact ⟨fun h => absurd (And.intro h.1 h.2.1) (by omega), fun _ => rfl⟩))⟩⟩
    · have r11 : ar1.toInt < (gi 70 1).toInt := Int32.lt_iff_toInt_lt.mp (t_nle h8)
      have u12 : ar1.toInt ≤ 5 := t_ltu (t_nle h8) u7 rfl
      have l13 : 1 ≤ (gi 70 1).toInt := t_ltl (t_nle h8) l6 rfl
      refine ev_ic f_X12_isShip (nx := 15) (v := 1) rfl (by decide) rfl ?_
      refine ev_jmp f_X12_isShip (nx := 19) rfl rfl rfl ?_
      refine ev_retK1 f_X12_isShip rfl rfl rfl ?_
      refine ev_f f_X12_slack (t1 := 8) (t2 := 14) rfl rfl rfl (by decide) ?_
      refine ev_loc f_X12_slack (nx := 15) rfl rfl rfl rfl ?_
      refine ev_ic f_X12_slack (nx := 16) (v := 0) rfl (by decide) rfl ?_
      refine ev_loc f_X12_slack (nx := 17) rfl rfl rfl rfl ?_
      refine ev_getR f_X12_slack (nx := 20) rfl (hI.wf.s rfl) rfl rfl (hI.wf.r rfl) rfl rfl ?_
      refine ev_ic f_X12_slack (nx := 21) (v := 4) rfl (by decide) rfl ?_
      refine ev_ialdv f_X12_slack (nx := 22) (w := (gi 70 4)) rfl (hI.wf.s rfl) (by decide) (rfl : (4 : Int32).toNatClampNeg = 4) (by decide) rfl rfl ?_
      refine ev_qI f_X12_slack (nx := 25) (r := []) rfl rfl rfl rfl rfl rfl rfl (c_n_leastBy hI ((gi 70 4)) l2 u2 (by omega)) rfl hX rfl (fun w15 gi15 gl15 gr15 l15 u15 hI hX hC15 q15 => ?_)
      have q15 : ∀ D : s_D, t_ME 0 gi D → t_Cb D → s_DB D → (gi 69 46).toInt = -1 → w15.toInt = s_an (s_LS (s_PD D (gi 70 4).toInt) 0 0 0 0) := q15
      refine ev_loc f_X12_slack (nx := 26) (lo' := [(2, .int w15), (0, .ref 69), (1, .int ar1)]) rfl rfl rfl rfl ?_
      refine ev_loc f_X12_slack (nx := 27) rfl rfl rfl rfl ?_
      refine ev_ic f_X12_slack (nx := 28) (v := -1) rfl (by decide) rfl ?_
      refine ev_if f_X12_slack (t1 := 31) (t2 := 38) rfl rfl rfl (fun h16 => ?_) (fun h16 => ?_)
      · have u17 : w15.toInt ≤ (-1) := t_equ h16 (by decide : ((-1):Int32).toInt ≤ ((-1):Int))
        have l18 : (-1) ≤ w15.toInt := t_eql h16 (by decide : ((-1):Int) ≤ ((-1):Int32).toInt)
        refine ev_loc f_X12_slack (nx := 32) rfl rfl rfl rfl ?_
        refine ev_bp f_X12_slack (nx := 34) (v := 6) rfl (by decide) rfl ?_
        refine ev_inV2 f_X12_slack (nx := 37) (lo2 := [(0, .ref 69), (1, .int 6)]) rfl rfl rfl rfl f_X12_refuse (hI.wf.s rfl) rfl rfl rfl rfl rfl ?_
        refine ev_loc f_X12_refuse (nx := 1) rfl rfl rfl rfl ?_
        refine ev_loc f_X12_refuse (nx := 2) rfl rfl rfl rfl ?_
        refine ev_putIT f_X12_refuse (nx := 5) rfl (hI.wf.s rfl) rfl rfl rfl (hI.put0 (hI.wf.s rfl) rfl rfl) (hX.upI rfl) (fun g19 e19 hI hX => ?_)
        refine ev_ic f_X12_refuse (nx := 6) (v := -1) rfl (by decide) rfl ?_
        refine ev_retK1 f_X12_refuse rfl rfl rfl ?_
        exact ev_ret f_X12_slack rfl rfl rfl ⟨_, _, _, rfl, hI, hX, ⟨_, rfl, (by decide : ((-1):Int) ≤ ((-1):Int32).toInt), (Int.le_trans (by decide : ((-1):Int32).toInt ≤ ((-1):Int)) (by decide : ((-1):Int) ≤ 60)), (show ∀ D : s_D, t_ME 0 gi D → t_Cb D → s_DB D → (gi 69 46).toInt = -1 → ((0 ≤ ar1.toInt ∧ ar1.toInt < D 1 ∧ (s_LS (s_PD D (D 4)) 0 0 0 0) < 1000000000) → ((-1) : Int) = ((s_lg (s_sf D ar1.toInt) (s_LS (s_PD D (D 4)) 0 0 0 0) 60 : Nat) : Int)) ∧ (¬ (0 ≤ ar1.toInt ∧ ar1.toInt < D 1 ∧ (s_LS (s_PD D (D 4)) 0 0 0 0) < 1000000000) → ((-1) : Int) = -1) from (by
                                                            intro D hm hb hd h46
                                                            have ha : (gi 70 1).toInt = D 1 := hm.1.1.2.1
                                                            have hq := q15 D hm hb hd h46
                                                            have h4 : (gi 70 4).toInt = D 4 := hm.1.2.1
                                                            rw [h4] at hq
                                                            have hl0 := s_LS_lo (s_PD_O (q := D 4) hb hd hd.2.2.1.1) 0 0 0 0
                                                            have hn := (s_an_n hl0).mp (by omega)
                                                            exact ⟨fun h => absurd h.2.2 (by omega), fun _ => rfl⟩))⟩⟩
      · have r20 : w15.toInt ≠ (-1) := fun e => h16 (Int32.toInt_inj.mp (e.trans (by decide : ((-1):Int) = ((-1) : Int32).toInt)))
        refine ev_ic f_X12_slack (nx := 39) (v := 0) rfl (by decide) rfl ?_
        refine ev_loc f_X12_slack (nx := 40) (lo' := [(3, .int 0), (2, .int w15), (0, .ref 69), (1, .int ar1)]) rfl rfl rfl rfl ?_
        refine ev_ic f_X12_slack (nx := 41) (v := 1) rfl (by decide) rfl ?_
        refine ev_loc f_X12_slack (nx := 43) (lo' := [(4, .int 1), (3, .int 0), (2, .int w15), (0, .ref 69), (1, .int ar1)]) rfl rfl rfl rfl ?_
        have L21 : ∀ (m21 : Nat) (gi21 : Nat → Nat → Int32) (gl21 : Nat → Nat → Int64) (gr21 : Nat → Nat → Value) (y21_4 : Int32) (y21_3 : Int32), t_I sh gi21 gr21 → t_X wl_e_slack sh gi gl gr gi21 gl21 gr21 → 1 ≤ y21_4.toInt → y21_4.toInt ≤ 61 → 0 ≤ y21_3.toInt → y21_3.toInt ≤ 60 → gi21 69 46 = (gi 69 46) → gi21 70 1 = (gi 70 1) → gi21 70 4 = (gi 70 4) → (∀ D : s_D, t_ME 0 gi D → t_Cb D → s_DB D → (gi 69 46).toInt = -1 → w15.toInt = (s_LS (s_PD D (D 4)) 0 0 0 0) ∧ y21_3.toInt = ((s_lg (s_sf D ar1.toInt) (s_LS (s_PD D (D 4)) 0 0 0 0) (y21_4.toNatClampNeg - 1) : Nat) : Int) ∧ 0 ≤ ar1.toInt ∧ ar1.toInt < D 1 ∧ (s_LS (s_PD D (D 4)) 0 0 0 0) < 1000000000) → (61 - y21_4.toInt).toNat = m21 → x_Ev X (d + 6) n_X12_slack 43 [(4, .int y21_4), (3, .int y21_3), (2, .int w15), (0, .ref 69), (1, .int ar1)] [] (sh, gi21, gl21, gr21) (t_PI wl_e_slack sh gi gl gr (-1) 60 (Q_e_slack gi gl gr ar1)) := by
          intro m21
          induction m21 using Nat.strongRecOn with
          | _ m21 ih21 =>
          intro gi21 gl21 gr21 y21_4 y21_3 hI hX l21_4 u21_4 l21_3 u21_3 c21_0 c21_1 c21_2 j21_0 hm21
          refine ev_loc f_X12_slack (nx := 45) rfl rfl rfl rfl ?_
          have hXh := hX
          refine ev_bp f_X12_slack (nx := 47) (v := 60) rfl (by decide) rfl ?_
          refine ev_if f_X12_slack (t1 := 80) (t2 := 50) rfl rfl rfl (fun h22 => ?_) (fun h22 => ?_)
          · have l23 : 61 ≤ y21_4.toInt := t_ltl h22 (by decide : (60:Int) ≤ (60:Int32).toInt) rfl
            refine ev_loc f_X12_slack (nx := 81) rfl rfl rfl rfl ?_
            refine ev_loc f_X12_slack (nx := 82) rfl rfl rfl rfl ?_
            refine ev_inV2 f_X12_slack (nx := 85) (lo2 := [(0, .ref 69), (1, .int y21_3)]) rfl rfl rfl rfl f_X12_gives (hI.wf.s rfl) rfl rfl rfl rfl rfl ?_
            refine ev_loc f_X12_gives (nx := 1) rfl rfl rfl rfl ?_
            refine ev_ic f_X12_gives (nx := 2) (v := 0) rfl (by decide) rfl ?_
            refine ev_putIT f_X12_gives (nx := 5) rfl (hI.wf.s rfl) rfl rfl rfl (hI.put0 (hI.wf.s rfl) rfl rfl) (hX.upI rfl) (fun g24 e24 hI hX => ?_)
            refine ev_loc f_X12_gives (nx := 6) rfl rfl rfl rfl ?_
            refine ev_retK1 f_X12_gives rfl rfl rfl ?_
            exact ev_ret f_X12_slack rfl rfl rfl ⟨_, _, _, rfl, hI, hX, ⟨_, rfl, (Int.le_trans (by decide : ((-1):Int) ≤ 0) l21_3), u21_3, (show ∀ D : s_D, t_ME 0 gi D → t_Cb D → s_DB D → (gi 69 46).toInt = -1 → ((0 ≤ ar1.toInt ∧ ar1.toInt < D 1 ∧ (s_LS (s_PD D (D 4)) 0 0 0 0) < 1000000000) → y21_3.toInt = ((s_lg (s_sf D ar1.toInt) (s_LS (s_PD D (D 4)) 0 0 0 0) 60 : Nat) : Int)) ∧ (¬ (0 ≤ ar1.toInt ∧ ar1.toInt < D 1 ∧ (s_LS (s_PD D (D 4)) 0 0 0 0) < 1000000000) → y21_3.toInt = -1) from (by
                                                            intro D hm hb hd h46
                                                            have ha : (gi 70 1).toInt = D 1 := hm.1.1.2.1
                                                            obtain ⟨g2, g3, g4, g5, g6⟩ := j21_0 D hm hb hd h46
                                                            have c1 := t_clamp (i := y21_4) (by omega)
                                                            rw [show y21_4.toNatClampNeg - 1 = 60 from (by omega)] at g3
                                                            exact ⟨fun _ => g3, fun h => absurd (show _ from ⟨g4, g5, g6⟩) h⟩))⟩⟩
          · have u25 : y21_4.toInt ≤ 60 := t_leu (t_nlt h22) (by decide : (60:Int32).toInt ≤ (60:Int))
            refine ev_loc f_X12_slack (nx := 51) rfl rfl rfl rfl ?_
            refine ev_loc f_X12_slack (nx := 52) rfl rfl rfl rfl ?_
            refine ev_loc f_X12_slack (nx := 54) rfl rfl rfl rfl ?_
            refine ev_qI f_X12_slack (nx := 57) (r := []) rfl rfl rfl rfl rfl rfl rfl (c_n_laterBy hI (ar1) l6 u12 (y21_4) (Int.le_trans (by decide : (0:Int) ≤ 1) l21_4) u25 (by
                                                            rw [t_F_nc (t_F_X hXh) rfl (by decide)]
                                                            exact e_p0)) rfl hX rfl (fun w26 gi26 gl26 gr26 l26 u26 hI hX hC26 q26 => ?_)
            have ff27 : (gi21 69 46).toInt = (gi 69 46).toInt := congrArg Int32.toInt c21_0
            have q26 : ∀ D : s_D, t_ME 0 gi21 D → t_Cb D → s_DB D → (gi21 69 46).toInt = -1 → ar1.toInt < D 1 → w26.toInt = s_an (s_LS (s_PX D (D 4) (s_Al (s_A D) ar1.toInt y21_4.toInt) 0 (-1)) 0 0 0 0) := q26
            refine ev_loc f_X12_slack (nx := 59) (lo' := [(5, .int w26), (4, .int y21_4), (3, .int y21_3), (2, .int w15), (0, .ref 69), (1, .int ar1)]) rfl rfl rfl rfl ?_
            refine ev_loc f_X12_slack (nx := 61) rfl rfl rfl rfl ?_
            refine ev_ic f_X12_slack (nx := 62) (v := -1) rfl (by decide) rfl ?_
            refine ev_if f_X12_slack (t1 := 74) (t2 := 65) rfl rfl rfl (fun h28 => ?_) (fun h28 => ?_)
            · have u29 : w26.toInt ≤ (-1) := t_equ h28 (by decide : ((-1):Int32).toInt ≤ ((-1):Int))
              have l30 : (-1) ≤ w26.toInt := t_eql h28 (by decide : ((-1):Int) ≤ ((-1):Int32).toInt)
              refine ev_incR f_X12_slack (nx := 77) (c := 1) (l := 2) (u := 61) rfl rfl (by decide) (by decide) l21_4 u25 rfl rfl (by decide) (by decide) rfl (fun z31 e31 l31 u31 => ?_)
              refine ev_jmp f_X12_slack (nx := 43) rfl rfl rfl ?_
              refine ev_sub (lo := [(4, .int z31), (3, .int y21_3), (2, .int w15), (0, .ref 69), (1, .int ar1)]) rfl (t_sc rfl (t_sc rfl (t_sc rfl (t_sc rfl (t_sc rfl t_sn))))) ?_
              exact ih21 _ (by omega) gi26 gl26 gr26 (z31) (y21_3) hI hX  (Int.le_trans (by decide : (1:Int) ≤ 2) l31) u31 l21_3 u21_3 ((hC26.1 69 46 rfl).1.trans c21_0) ((hC26.1 70 1 rfl).1.trans c21_1) ((hC26.1 70 4 rfl).1.trans c21_2) (by
                                                            intro D hm hb hd h46
                                                            have ha : (gi 70 1).toInt = D 1 := hm.1.1.2.1
                                                            obtain ⟨g2, g3, g4, g5, g6⟩ := j21_0 D hm hb hd h46
                                                            have fh := t_F_X hXh
                                                            have hmn : t_ME 0 gi21 D := hm.mv hb (fun j _ _ _ => congrFun (t_F_nc fh rfl (by decide)) (0 + j))
                                                            have k46 : (gi21 69 46).toInt = -1 := by rw [(fh 69 46 (by decide) rfl).1]; exact h46
                                                            have hq := q26 D hmn hb hd k46 (by omega)
                                                            have c1 := t_clamp (i := y21_4) (by omega)
                                                            rw [← c1] at hq
                                                            have hlo := s_sf_lo hb hd (s := ar1.toInt) (l := y21_4.toNatClampNeg) (by omega)
                                                            have hle := s_an_le hlo g6
                                                            have hq2 : w26.toInt = s_an (s_sf D ar1.toInt y21_4.toNatClampNeg) := hq
                                                            rw [← hq2] at hle
                                                            have hn : ¬ s_sf D ar1.toInt y21_4.toNatClampNeg ≤ s_LS (s_PD D (D 4)) 0 0 0 0 := fun h => absurd (hle.mpr h) (by omega)
                                                            exact ⟨g2, s_lg_up g3 (by omega) (by omega) (Or.inr ⟨hn, rfl⟩), g4, g5, g6⟩) rfl
            · have r32 : w26.toInt ≠ (-1) := fun e => h28 (Int32.toInt_inj.mp (e.trans (by decide : ((-1):Int) = ((-1) : Int32).toInt)))
              refine ev_loc f_X12_slack (nx := 67) rfl rfl rfl rfl ?_
              refine ev_loc f_X12_slack (nx := 68) rfl rfl rfl rfl ?_
              refine ev_if f_X12_slack (t1 := 74) (t2 := 71) rfl rfl rfl (fun h33 => ?_) (fun h33 => ?_)
              · have r34 : w15.toInt < w26.toInt := Int32.lt_iff_toInt_lt.mp h33
                have u35 : w15.toInt ≤ 999999998 := t_ltu h33 u26 rfl
                have l36 : (-2147483647) ≤ w26.toInt := t_ltl h33 l15 rfl
                refine ev_incR f_X12_slack (nx := 77) (c := 1) (l := 2) (u := 61) rfl rfl (by decide) (by decide) l21_4 u25 rfl rfl (by decide) (by decide) rfl (fun z37 e37 l37 u37 => ?_)
                refine ev_jmp f_X12_slack (nx := 43) rfl rfl rfl ?_
                refine ev_sub (lo := [(4, .int z37), (3, .int y21_3), (2, .int w15), (0, .ref 69), (1, .int ar1)]) rfl (t_sc rfl (t_sc rfl (t_sc rfl (t_sc rfl (t_sc rfl t_sn))))) ?_
                exact ih21 _ (by omega) gi26 gl26 gr26 (z37) (y21_3) hI hX  (Int.le_trans (by decide : (1:Int) ≤ 2) l37) u37 l21_3 u21_3 ((hC26.1 69 46 rfl).1.trans c21_0) ((hC26.1 70 1 rfl).1.trans c21_1) ((hC26.1 70 4 rfl).1.trans c21_2) (by
                                                            intro D hm hb hd h46
                                                            have ha : (gi 70 1).toInt = D 1 := hm.1.1.2.1
                                                            obtain ⟨g2, g3, g4, g5, g6⟩ := j21_0 D hm hb hd h46
                                                            have fh := t_F_X hXh
                                                            have hmn : t_ME 0 gi21 D := hm.mv hb (fun j _ _ _ => congrFun (t_F_nc fh rfl (by decide)) (0 + j))
                                                            have k46 : (gi21 69 46).toInt = -1 := by rw [(fh 69 46 (by decide) rfl).1]; exact h46
                                                            have hq := q26 D hmn hb hd k46 (by omega)
                                                            have c1 := t_clamp (i := y21_4) (by omega)
                                                            rw [← c1] at hq
                                                            have hlo := s_sf_lo hb hd (s := ar1.toInt) (l := y21_4.toNatClampNeg) (by omega)
                                                            have hle := s_an_le hlo g6
                                                            have hq2 : w26.toInt = s_an (s_sf D ar1.toInt y21_4.toNatClampNeg) := hq
                                                            rw [← hq2] at hle
                                                            have hn : ¬ s_sf D ar1.toInt y21_4.toNatClampNeg ≤ s_LS (s_PD D (D 4)) 0 0 0 0 := fun h => absurd (hle.mpr h) (by omega)
                                                            exact ⟨g2, s_lg_up g3 (by omega) (by omega) (Or.inr ⟨hn, rfl⟩), g4, g5, g6⟩) rfl
              · have r38 : w26.toInt ≤ w15.toInt := Int32.le_iff_toInt_le.mp (t_nlt h33)
                refine ev_loc f_X12_slack (nx := 73) rfl rfl rfl rfl ?_
                refine ev_loc f_X12_slack (nx := 74) (lo' := [(3, .int y21_4), (5, .int w26), (4, .int y21_4), (2, .int w15), (0, .ref 69), (1, .int ar1)]) rfl rfl rfl rfl ?_
                refine ev_incR f_X12_slack (nx := 77) (c := 1) (l := 2) (u := 61) rfl rfl (by decide) (by decide) l21_4 u25 rfl rfl (by decide) (by decide) rfl (fun z39 e39 l39 u39 => ?_)
                refine ev_jmp f_X12_slack (nx := 43) rfl rfl rfl ?_
                refine ev_sub (lo := [(4, .int z39), (3, .int y21_4), (2, .int w15), (0, .ref 69), (1, .int ar1)]) rfl (t_sc rfl (t_sc rfl (t_sc rfl (t_sc rfl (t_sc rfl t_sn))))) ?_
                exact ih21 _ (by omega) gi26 gl26 gr26 (z39) (y21_4) hI hX  (Int.le_trans (by decide : (1:Int) ≤ 2) l39) u39 (Int.le_trans (by decide : (0:Int) ≤ 1) l21_4) u25 ((hC26.1 69 46 rfl).1.trans c21_0) ((hC26.1 70 1 rfl).1.trans c21_1) ((hC26.1 70 4 rfl).1.trans c21_2) (by
                                                            intro D hm hb hd h46
                                                            have ha : (gi 70 1).toInt = D 1 := hm.1.1.2.1
                                                            obtain ⟨g2, g3, g4, g5, g6⟩ := j21_0 D hm hb hd h46
                                                            have fh := t_F_X hXh
                                                            have hmn : t_ME 0 gi21 D := hm.mv hb (fun j _ _ _ => congrFun (t_F_nc fh rfl (by decide)) (0 + j))
                                                            have k46 : (gi21 69 46).toInt = -1 := by rw [(fh 69 46 (by decide) rfl).1]; exact h46
                                                            have hq := q26 D hmn hb hd k46 (by omega)
                                                            have c1 := t_clamp (i := y21_4) (by omega)
                                                            rw [← c1] at hq
                                                            have hlo := s_sf_lo hb hd (s := ar1.toInt) (l := y21_4.toNatClampNeg) (by omega)
                                                            have hle := s_an_le hlo g6
                                                            have hq2 : w26.toInt = s_an (s_sf D ar1.toInt y21_4.toNatClampNeg) := hq
                                                            rw [← hq2] at hle
                                                            have hy := hle.mp ⟨by omega, by omega⟩
                                                            exact ⟨g2, s_lg_up g3 (by omega) (by omega) (Or.inl ⟨hy, rfl⟩), g4, g5, g6⟩) rfl
        refine ev_sub (lo := [(4, .int 1), (3, .int 0), (2, .int w15), (0, .ref 69), (1, .int ar1)]) rfl (t_sc rfl (t_sc rfl (t_sc rfl (t_sc rfl (t_sc rfl t_sn))))) ?_
        exact L21 _ gi15 gl15 gr15 (1) (0) hI hX  (by decide : (1:Int) ≤ (1:Int32).toInt) (Int.le_trans (by decide : (1:Int32).toInt ≤ (1:Int)) (by decide : (1:Int) ≤ 61)) (by decide : (0:Int) ≤ (0:Int32).toInt) (Int.le_trans (by decide : (0:Int32).toInt ≤ (0:Int)) (by decide : (0:Int) ≤ 60)) ((hC15.1 69 46 rfl).1.trans rfl) ((hC15.1 70 1 rfl).1.trans rfl) ((hC15.1 70 4 rfl).1.trans rfl) (by
                                                            intro D hm hb hd h46
                                                            have ha : (gi 70 1).toInt = D 1 := hm.1.1.2.1
                                                            have hq := q15 D hm hb hd h46
                                                            have h4 : (gi 70 4).toInt = D 4 := hm.1.2.1
                                                            rw [h4] at hq
                                                            have hl0 := s_LS_lo (s_PD_O (q := D 4) hb hd hd.2.2.1.1) 0 0 0 0
                                                            have hlt : s_LS (s_PD D (D 4)) 0 0 0 0 < 1000000000 := by
                                                              by_cases hh : 1000000000 ≤ s_LS (s_PD D (D 4)) 0 0 0 0
                                                              · have hn := (s_an_n hl0).mpr hh; omega
                                                              · exact Int.not_le.mp hh
                                                            rw [s_an_v hlt] at hq
                                                            exact ⟨hq, rfl, by omega, by omega, hlt⟩) rfl
/-! ===== slack: the answers are alike ===== -/
section SLKL
variable {sh : List (Nat ⊕ (Nat × Nat))} {gi g1 g2 : Nat → Nat → Int32} {gl l1 l2 : Nat → Nat → Int64} {gr r1 r2 : Nat → Nat → Value} {w1 : List (Nat × Nat)} {A : Int32} {x1 x2 : Int32}
theorem t_L_slack (hI : t_I sh gi gr) (hD : t_DR sh.length gi gl gr) (f1 : t_F w1 gi gl gr g1 l1 r1) (h70 : t_nc w1 70 = true) (hN1 : (g1 69 46).toInt = -1) (h4 : 1 ≤ (g1 70 4).toInt) (q1 : Q_d_slack gi gl gr A x1 g1 l1 r1) (q2 : Q_e_slack g1 l1 r1 A x2 g2 l2 r2) : x1 = x2 := by
  obtain ⟨u, hu, D, hb, hv, hl, hc, hm⟩ := hD.1
  have r70 : g1 70 = gi 70 := t_F_nc f1 h70 (by decide)
  have hm2 : t_ME 0 g1 D := by unfold t_ME; rw [r70]; exact hm
  have hd : s_DB D := s_DB_of hI hm hb (by rw [← r70]; exact h4)
  have k1 := q1 u D hu hl hc hb hv.1 (t_D_sail hI hb hm) hd
  have k2 := q2 D hm2 hb hd hN1
  apply Int32.toInt_inj.mp
  by_cases hin : 0 ≤ A.toInt ∧ A.toInt < D 1 ∧ s_LS (s_PD D (D 4)) 0 0 0 0 < 1000000000
  · rw [k1.1 hin, k2.1 hin]
  · rw [k1.2 hin, k2.2 hin]
end SLKL
