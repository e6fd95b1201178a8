/-! ===== printed by riv.py: slack ===== -/
noncomputable def wl_d_canEndWithin : List (Nat × Nat) := [(28, 4), (28, 5)]
noncomputable def Q_d_canEndWithin (gi : Nat → Nat → Int32) (gl : Nat → Nat → Int64) (gr : Nat → Nat → Value) (ar1 : Int32) (ar2 : Int32) (ar3 : Int32) (ar4 : Int32) (ar5 : Int32) : Int32 → (Nat → Nat → Int32) → (Nat → Nat → Int64) → (Nat → Nat → Value) → Prop := fun (v : Int32) (gi2 : Nat → Nat → Int32) (gl2 : Nat → Nat → Int64) (gr2 : Nat → Nat → Value) => ∀ P : Nat → Nat → Int, s_CP P gi gr → s_PB P → s_PO P → 0 ≤ ar1.toInt → ar1.toInt ≤ 2000 → ar3.toInt ≤ P 0 0 → ar4.toInt ≤ P 0 1 → 0 ≤ ar5.toInt → ar5.toInt ≤ 999999999 → (v.toInt = 1 ↔ s_LS P ar1.toInt ar2.toNatClampNeg ar3.toNatClampNeg ar4.toNatClampNeg ≤ ar5.toInt)
theorem c_d_canEndWithin {X : x_Ext} {d : Nat} {sh : List (Nat ⊕ (Nat × Nat))} {gi : Nat → Nat → Int32} {gl : Nat → Nat → Int64} {gr : Nat → Nat → Value} (hI : t_I sh gi gr) (ar1 : Int32) (ar2 : Int32) (l_a2 : 0 ≤ ar2.toInt) (u_a2 : ar2.toInt ≤ 1) (ar3 : Int32) (l_a3 : 0 ≤ ar3.toInt) (u_a3 : ar3.toInt ≤ 6) (ar4 : Int32) (l_a4 : 0 ≤ ar4.toInt) (u_a4 : ar4.toInt ≤ 6) (ar5 : Int32) : x_Me X (d + 17) n_X1_canEndWithin [.ref 28, .int ar1, .int ar2, .int ar3, .int ar4, .int ar5] (sh, gi, gl, gr) (t_PI wl_d_canEndWithin sh gi gl gr 0 1 (Q_d_canEndWithin gi gl gr ar1 ar2 ar3 ar4 ar5)) := by
  have hX : t_X wl_d_canEndWithin sh gi gl gr gi gl gr := t_X.rf
  refine me_i f_X1_canEndWithin (hI.wf.s rfl) rfl rfl rfl ?_
  refine ev_loc f_X1_canEndWithin (nx := 1) rfl rfl rfl rfl ?_
  refine ev_loc f_X1_canEndWithin (nx := 3) rfl rfl rfl rfl ?_
  refine ev_ic f_X1_canEndWithin (nx := 4) (v := 1) rfl (by decide) rfl ?_
  refine ev_anyIE f_X1_canEndWithin (nx := 5) rfl rfl rfl rfl (fun z1 e1 => ?_)
  refine ev_putIT f_X1_canEndWithin (nx := 8) rfl (hI.wf.s rfl) rfl rfl rfl (hI.put0 (hI.wf.s rfl) rfl rfl) (hX.upI rfl) (fun g2 e2 hI hX => ?_)
  refine ev_loc f_X1_canEndWithin (nx := 9) rfl rfl rfl rfl ?_
  refine ev_loc f_X1_canEndWithin (nx := 11) rfl rfl rfl rfl ?_
  refine ev_putIT f_X1_canEndWithin (nx := 14) rfl (hI.wf.s rfl) rfl rfl rfl (hI.put0 (hI.wf.s rfl) rfl rfl) (hX.upI rfl) (fun g3 e3 hI hX => ?_)
  refine ev_loc f_X1_canEndWithin (nx := 15) rfl rfl rfl rfl ?_
  have hXh := hX
  refine ev_loc f_X1_canEndWithin (nx := 16) rfl rfl rfl rfl ?_
  refine ev_loc f_X1_canEndWithin (nx := 17) rfl rfl rfl rfl ?_
  refine ev_loc f_X1_canEndWithin (nx := 18) rfl rfl rfl rfl ?_
  refine ev_loc f_X1_canEndWithin (nx := 20) rfl rfl rfl rfl ?_
  refine ev_ic f_X1_canEndWithin (nx := 21) (v := 0) rfl (by decide) rfl ?_
  refine ev_qN f_X1_canEndWithin (nx := 24) (r := []) rfl rfl rfl rfl rfl rfl rfl (c_d_search hI (ar1) (ar2) l_a2 u_a2 (ar3) l_a3 u_a3 (ar4) l_a4 u_a4 (0)) rfl hX rfl (fun gi4 gl4 gr4 hI hX hC4 q4 => ?_)
  have ff5 : (g3 28 4).toInt = z1.toInt := congrArg Int32.toInt ((by rw [e3]; exact x_up2_off (Or.inr (by decide)) : g3 28 4 = g2 28 4).trans (by rw [e2]; exact x_up2_at _ _ _ _ : g2 28 4 = z1))
  have ff6 : (g3 28 5).toInt = ar5.toInt := congrArg Int32.toInt (by rw [e3]; exact x_up2_at _ _ _ _ : g3 28 5 = ar5)
  have q4 : ∀ P : Nat → Nat → Int, s_CP P g3 gr → s_PB P → s_PO P → 0 ≤ ar1.toInt → ar1.toInt ≤ 2000 → ar3.toInt ≤ P 0 0 → ar4.toInt ≤ P 0 1 → 0 ≤ (0 : Int) → (0 : Int) ≤ 240000 * (ar3.toInt + ar4.toInt) → (g3 28 4).toInt ≤ 1000000000 → s_BB (g3 28 4).toInt (g3 28 5).toInt ((0 : Int) + s_LS P ar1.toInt ar2.toNatClampNeg ar3.toNatClampNeg ar4.toNatClampNeg) (gi4 28 4).toInt := q4
  refine ev_loc f_X1_canEndWithin (nx := 25) rfl rfl rfl rfl ?_
  refine ev_getI f_X1_canEndWithin (nx := 28) rfl (hI.wf.s rfl) rfl rfl rfl ?_
  refine ev_loc f_X1_canEndWithin (nx := 30) rfl rfl rfl rfl ?_
  refine ev_if f_X1_canEndWithin (t1 := 37) (t2 := 33) rfl rfl rfl (fun h7 => ?_) (fun h7 => ?_)
  · have r8 : ar5.toInt < (gi4 28 4).toInt := Int32.lt_iff_toInt_lt.mp h7
    have u9 : ar5.toInt ≤ 2147483646 := t_ltu h7 (t_hi (gi4 28 4)) rfl
    have l10 : (-2147483647) ≤ (gi4 28 4).toInt := t_ltl h7 (t_lo ar5) rfl
    refine ev_ic f_X1_canEndWithin (nx := 38) (v := 0) rfl (by decide) rfl ?_
    exact ev_ret f_X1_canEndWithin rfl rfl rfl ⟨_, _, _, rfl, hI, hX, ⟨_, rfl, (by decide : (0:Int) ≤ (0:Int32).toInt), (Int.le_trans (by decide : (0:Int32).toInt ≤ (0:Int)) (by decide : (0:Int) ≤ 1)), (show ∀ P : Nat → Nat → Int, s_CP P gi gr → s_PB P → s_PO P → 0 ≤ ar1.toInt → ar1.toInt ≤ 2000 → ar3.toInt ≤ P 0 0 → ar4.toInt ≤ P 0 1 → 0 ≤ ar5.toInt → ar5.toInt ≤ 999999999 → ((0 : Int) = 1 ↔ s_LS P ar1.toInt ar2.toNatClampNeg ar3.toNatClampNeg ar4.toNatClampNeg ≤ ar5.toInt) from (by
                                                            intro P hc hb hp h1 h2 h3 h4 h5 h6
                                                            have hc2 := hc.fr hXh rfl rfl
                                                            have k1 : (1 : Int32).toInt = 1 := rfl
                                                            have hz : z1.toInt = ar5.toInt + 1 := s_add e1 rfl rfl (by omega)
                                                            have h7 : (g3 28 4).toInt = ar5.toInt + 1 := by rw [e3, x_up2_off (Or.inr (by decide)), e2, x_up2_at]; exact hz
                                                            have h8 : (g3 28 5).toInt = ar5.toInt := by rw [e3, x_up2_at]
                                                            have hq := q4 P hc2 hb hp h1 h2 h3 h4 (by decide) (by omega) (by rw [h7]; omega)
                                                            rw [h7, h8, Int.zero_add] at hq
                                                            have hle := s_BB_le hq
                                                            constructor
                                                            · intro h; exact hle.mp (by omega)
                                                            · intro h; have h9 := hle.mpr h; omega))⟩⟩
  · have r11 : (gi4 28 4).toInt ≤ ar5.toInt := Int32.le_iff_toInt_le.mp (t_nlt h7)
    refine ev_ic f_X1_canEndWithin (nx := 34) (v := 1) rfl (by decide) rfl ?_
    refine ev_jmp f_X1_canEndWithin (nx := 38) rfl rfl rfl ?_
    exact ev_ret f_X1_canEndWithin rfl rfl rfl ⟨_, _, _, rfl, hI, hX, ⟨_, rfl, (Int.le_trans (by decide : (0:Int) ≤ 1) (by decide : (1:Int) ≤ (1:Int32).toInt)), (by decide : (1:Int32).toInt ≤ (1:Int)), (show ∀ P : Nat → Nat → Int, s_CP P gi gr → s_PB P → s_PO P → 0 ≤ ar1.toInt → ar1.toInt ≤ 2000 → ar3.toInt ≤ P 0 0 → ar4.toInt ≤ P 0 1 → 0 ≤ ar5.toInt → ar5.toInt ≤ 999999999 → ((1 : Int) = 1 ↔ s_LS P ar1.toInt ar2.toNatClampNeg ar3.toNatClampNeg ar4.toNatClampNeg ≤ ar5.toInt) from (by
                                                            intro P hc hb hp h1 h2 h3 h4 h5 h6
                                                            have hc2 := hc.fr hXh rfl rfl
                                                            have k1 : (1 : Int32).toInt = 1 := rfl
                                                            have hz : z1.toInt = ar5.toInt + 1 := s_add e1 rfl rfl (by omega)
                                                            have h7 : (g3 28 4).toInt = ar5.toInt + 1 := by rw [e3, x_up2_off (Or.inr (by decide)), e2, x_up2_at]; exact hz
                                                            have h8 : (g3 28 5).toInt = ar5.toInt := by rw [e3, x_up2_at]
                                                            have hq := q4 P hc2 hb hp h1 h2 h3 h4 (by decide) (by omega) (by rw [h7]; omega)
                                                            rw [h7, h8, Int.zero_add] at hq
                                                            have hle := s_BB_le hq
                                                            constructor
                                                            · intro h; exact hle.mp (by omega)
                                                            · intro h; have h9 := hle.mpr h; omega))⟩⟩
noncomputable def wl_d_slack : List (Nat × Nat) := [(0, 0), (28, 0), (28, 1), (28, 4), (28, 5), (29, 0), (30, 9999), (31, 9999), (32, 9999), (33, 9999), (34, 9999), (35, 0), (36, 9999), (37, 9999), (38, 9999), (39, 9999), (40, 9999)]
noncomputable def Q_d_slack (gi : Nat → Nat → Int32) (gl : Nat → Nat → Int64) (gr : Nat → Nat → Value) (ar1 : Int32) : Int32 → (Nat → Nat → Int32) → (Nat → Nat → Int64) → (Nat → Nat → Value) → Prop := fun (v : Int32) (gi2 : Nat → Nat → Int32) (gl2 : Nat → Nat → Int64) (gr2 : Nat → Nat → Value) => ∀ (u : Nat) (D : s_D), gr 0 6 = .ref u → t_VL gr u → t_CV gi gl u D → t_Cb D → (u = 3 ∨ 102 ≤ u) → (∀ s : Nat, (s : Int) < D 1 → 0 ≤ D (56 + 5 * s) ∧ D (56 + 5 * s) ≤ 1) → s_DB D → ((0 ≤ ar1.toInt ∧ ar1.toInt < D 1 ∧ (s_LS (s_PD D (D 4)) 0 0 0 0) < 1000000000) → v.toInt = ((s_lg (s_sf D ar1.toInt) (s_LS (s_PD D (D 4)) 0 0 0 0) 60 : Nat) : Int)) ∧ (¬ (0 ≤ ar1.toInt ∧ ar1.toInt < D 1 ∧ (s_LS (s_PD D (D 4)) 0 0 0 0) < 1000000000) → v.toInt = -1)
theorem c_d_slack {X : x_Ext} {d : Nat} {sh : List (Nat ⊕ (Nat × Nat))} {gi : Nat → Nat → Int32} {gl : Nat → Nat → Int64} {gr : Nat → Nat → Value} (hI : t_I sh gi gr) (ar1 : Int32) : x_Me X (d + 19) n_X11_slack [.ref 0, .int ar1] (sh, gi, gl, gr) (t_PI wl_d_slack sh gi gl gr (-1) 60 (Q_d_slack gi gl gr ar1)) := by
  have hX : t_X wl_d_slack sh gi gl gr gi gl gr := t_X.rf
  refine me_i f_X11_slack (hI.wf.s rfl) rfl rfl rfl ?_
  refine ev_loc f_X11_slack (nx := 1) rfl rfl rfl rfl ?_
  refine ev_loc f_X11_slack (nx := 2) rfl rfl rfl rfl ?_
  refine ev_inV2 f_X11_slack (nx := 5) (lo2 := [(0, .ref 0), (1, .int ar1)]) rfl rfl rfl rfl f_X11_isShip (hI.wf.s rfl) rfl rfl rfl rfl rfl ?_
  refine ev_loc f_X11_isShip (nx := 1) rfl rfl rfl rfl ?_
  refine ev_if f_X11_isShip (t1 := 22) (t2 := 4) rfl rfl rfl (fun h1 => ?_) (fun h1 => ?_)
  · have u2 : ar1.toInt ≤ (-1) := t_ltu h1 (by decide : (0:Int32).toInt ≤ (0:Int)) rfl
    refine ev_ic f_X11_isShip (nx := 23) (v := 0) rfl (by decide) rfl ?_
    refine ev_retK1 f_X11_isShip rfl rfl rfl ?_
    refine ev_t f_X11_slack (t1 := 8) (t2 := 14) rfl rfl rfl (by decide) ?_
    refine ev_loc f_X11_slack (nx := 9) rfl rfl rfl rfl ?_
    refine ev_ic f_X11_slack (nx := 10) (v := 1) rfl (by decide) rfl ?_
    refine ev_inV2 f_X11_slack (nx := 13) (lo2 := [(0, .ref 0), (1, .int 1)]) rfl rfl rfl rfl f_X11_refuse (hI.wf.s rfl) rfl rfl rfl rfl rfl ?_
    refine ev_loc f_X11_refuse (nx := 1) rfl rfl rfl rfl ?_
    refine ev_loc f_X11_refuse (nx := 2) rfl rfl rfl rfl ?_
    refine ev_putIT f_X11_refuse (nx := 5) rfl (hI.wf.s rfl) rfl rfl rfl (hI.put0 (hI.wf.s rfl) rfl rfl) (hX.upI rfl) (fun g3 e3 hI hX => ?_)
    refine ev_ic f_X11_refuse (nx := 6) (v := -1) rfl (by decide) rfl ?_
    refine ev_retK1 f_X11_refuse rfl rfl rfl ?_
    exact ev_ret f_X11_slack rfl rfl rfl ⟨_, _, _, rfl, hI, hX, ⟨_, rfl, (by decide : ((-1):Int) ≤ ((-1):Int32).toInt), (Int.le_trans (by decide : ((-1):Int32).toInt ≤ ((-1):Int)) (by decide : ((-1):Int) ≤ 60)), (show ∀ (u : Nat) (D : s_D), gr 0 6 = .ref u → t_VL gr u → t_CV gi gl u D → t_Cb D → (u = 3 ∨ 102 ≤ u) → (∀ s : Nat, (s : Int) < D 1 → 0 ≤ D (56 + 5 * s) ∧ D (56 + 5 * s) ≤ 1) → s_DB D → ((0 ≤ ar1.toInt ∧ ar1.toInt < D 1 ∧ (s_LS (s_PD D (D 4)) 0 0 0 0) < 1000000000) → ((-1) : Int) = ((s_lg (s_sf D ar1.toInt) (s_LS (s_PD D (D 4)) 0 0 0 0) 60 : Nat) : Int)) ∧ (¬ (0 ≤ ar1.toInt ∧ ar1.toInt < D 1 ∧ (s_LS (s_PD D (D 4)) 0 0 0 0) < 1000000000) → ((-1) : Int) = -1) from (by
                                                            intro u D hu hl hc hb hv hsl hd
                                                            have hL := hc.2.2.1.1
                                                            exact ⟨fun h => absurd (And.intro h.1 h.2.1) (by omega), fun _ => rfl⟩))⟩⟩
  · have l4 : 0 ≤ ar1.toInt := t_lel (t_nlt h1) (by decide : (0:Int) ≤ (0:Int32).toInt)
    refine ev_loc f_X11_isShip (nx := 5) rfl rfl rfl rfl ?_
    refine ev_loc f_X11_isShip (nx := 6) rfl rfl rfl rfl ?_
    obtain ⟨a5, e5, p5⟩ := hI.2.2.2.1.1
    refine ev_getR f_X11_isShip (nx := 9) rfl (hI.wf.s rfl) rfl rfl e5 rfl rfl ?_
    obtain ⟨a6, e6, p6⟩ := p5.2.2.2.2.1
    refine ev_getR f_X11_isShip (nx := 12) rfl p5.1 rfl rfl e6 rfl rfl ?_
    refine ev_getI f_X11_isShip (nx := 15) rfl p6.1 rfl rfl rfl ?_
    obtain ⟨l7, u7⟩ := hI.b p6.1 (t_bdK rfl : t_bd 3 0 = some (0, 6))
    refine ev_if f_X11_isShip (t1 := 22) (t2 := 18) rfl rfl rfl (fun h8 => ?_) (fun h8 => ?_)
    · have r9 : (gi a6 0).toInt ≤ ar1.toInt := Int32.le_iff_toInt_le.mp h8
      refine ev_ic f_X11_isShip (nx := 23) (v := 0) rfl (by decide) rfl ?_
      refine ev_retK1 f_X11_isShip rfl rfl rfl ?_
      refine ev_t f_X11_slack (t1 := 8) (t2 := 14) rfl rfl rfl (by decide) ?_
      refine ev_loc f_X11_slack (nx := 9) rfl rfl rfl rfl ?_
      refine ev_ic f_X11_slack (nx := 10) (v := 1) rfl (by decide) rfl ?_
      refine ev_inV2 f_X11_slack (nx := 13) (lo2 := [(0, .ref 0), (1, .int 1)]) rfl rfl rfl rfl f_X11_refuse (hI.wf.s rfl) rfl rfl rfl rfl rfl ?_
      refine ev_loc f_X11_refuse (nx := 1) rfl rfl rfl rfl ?_
      refine ev_loc f_X11_refuse (nx := 2) rfl rfl rfl rfl ?_
      refine ev_putIT f_X11_refuse (nx := 5) rfl (hI.wf.s rfl) rfl rfl rfl (hI.put0 (hI.wf.s rfl) rfl rfl) (hX.upI rfl) (fun g10 e10 hI hX => ?_)
      refine ev_ic f_X11_refuse (nx := 6) (v := -1) rfl (by decide) rfl ?_
      refine ev_retK1 f_X11_refuse rfl rfl rfl ?_
      exact ev_ret f_X11_slack rfl rfl rfl ⟨_, _, _, rfl, hI, hX, ⟨_, rfl, (by decide : ((-1):Int) ≤ ((-1):Int32).toInt), (Int.le_trans (by decide : ((-1):Int32).toInt ≤ ((-1):Int)) (by decide : ((-1):Int) ≤ 60)), (show ∀ (u : Nat) (D : s_D), gr 0 6 = .ref u → t_VL gr u → t_CV gi gl u D → t_Cb D → (u = 3 ∨ 102 ≤ u) → (∀ s : Nat, (s : Int) < D 1 → 0 ≤ D (56 + 5 * s) ∧ D (56 + 5 * s) ≤ 1) → s_DB D → ((0 ≤ ar1.toInt ∧ ar1.toInt < D 1 ∧ (s_LS (s_PD D (D 4)) 0 0 0 0) < 1000000000) → ((-1) : Int) = ((s_lg (s_sf D ar1.toInt) (s_LS (s_PD D (D 4)) 0 0 0 0) 60 : Nat) : Int)) ∧ (¬ (0 ≤ ar1.toInt ∧ ar1.toInt < D 1 ∧ (s_LS (s_PD D (D 4)) 0 0 0 0) < 1000000000) → ((-1) : Int) = -1) from (by
                                                            intro u D hu hl hc hb hv hsl hd
                                                            have ha : a5 = u := Value.ref.inj (e5.symm.trans hu)
                                                            subst ha
                                                            have hb1 : (a5 + 3) = a6 := Value.ref.inj ((hl.1.2.2.2.1).symm.trans e6)
                                                            subst hb1
                                                            have hL := hc.2.2.1.1
                                                            exact ⟨fun h => absurd (And.intro h.1 h.2.1) (by omega), fun _ => rfl⟩))⟩⟩
    · have r11 : ar1.toInt < (gi a6 0).toInt := Int32.lt_iff_toInt_lt.mp (t_nle h8)
      have u12 : ar1.toInt ≤ 5 := t_ltu (t_nle h8) u7 rfl
      have l13 : 1 ≤ (gi a6 0).toInt := t_ltl (t_nle h8) l4 rfl
      refine ev_ic f_X11_isShip (nx := 19) (v := 1) rfl (by decide) rfl ?_
      refine ev_jmp f_X11_isShip (nx := 23) rfl rfl rfl ?_
      refine ev_retK1 f_X11_isShip rfl rfl rfl ?_
      refine ev_f f_X11_slack (t1 := 8) (t2 := 14) rfl rfl rfl (by decide) ?_
      refine ev_loc f_X11_slack (nx := 15) rfl rfl rfl rfl ?_
      refine ev_inV1 f_X11_slack (nx := 18) (lo2 := [(0, .ref 0)]) rfl rfl rfl rfl f_X11_leastAsTold (hI.wf.s rfl) rfl rfl rfl rfl rfl ?_
      refine ev_loc f_X11_leastAsTold (nx := 1) rfl rfl rfl rfl ?_
      refine ev_getR f_X11_leastAsTold (nx := 4) rfl (hI.wf.s rfl) rfl rfl (hI.wf.r rfl) rfl rfl ?_
      refine ev_loc f_X11_leastAsTold (nx := 5) rfl rfl rfl rfl ?_
      refine ev_getR f_X11_leastAsTold (nx := 8) (v := .ref a5) rfl (hI.wf.s rfl) rfl rfl e5 rfl rfl ?_
      refine ev_qN f_X11_leastAsTold (nx := 11) (r := []) rfl rfl rfl rfl rfl rfl rfl (c_d_takeAll hI (a5) p5) rfl hX rfl (fun gi14 gl14 gr14 hI hX hC14 q14 => ?_)
      have q14 : ∀ D : s_D, t_VL gr a5 → t_CV gi gl a5 D → (a5 = 3 ∨ 102 ≤ a5) → t_Cb D → (∀ s : Nat, (s : Int) < D 1 → 0 ≤ D (56 + 5 * s) ∧ D (56 + 5 * s) ≤ 1) → s_CP (s_PD D (D 4)) gi14 gr14 ∧ gr14 28 0 = .ref a5 ∧ t_CV gi14 gl14 a5 D ∧ (gi14 28 1).toInt = D 4 := q14
      replace p5 := p5.ext hC14.2
      replace p6 := p6.ext hC14.2
      refine ev_loc f_X11_leastAsTold (nx := 12) rfl rfl rfl rfl ?_
      refine ev_getR f_X11_leastAsTold (nx := 15) rfl (hI.wf.s rfl) rfl rfl (hI.wf.r rfl) rfl rfl ?_
      refine ev_qI f_X11_leastAsTold (nx := 18) (r := []) rfl rfl rfl rfl rfl rfl rfl (c_d_leastWaits hI ) rfl hX rfl (fun w15 gi15 gl15 gr15 l15 u15 hI hX hC15 q15 => ?_)
      have q15 : ∀ P : Nat → Nat → Int, s_CP P gi14 gr14 → s_PB P → s_PO P → w15.toInt = s_LS P 0 0 0 0 := q15
      replace p5 := p5.ext hC15.2
      replace p6 := p6.ext hC15.2
      refine ev_retK1 f_X11_leastAsTold rfl rfl rfl ?_
      refine ev_loc f_X11_slack (nx := 19) (lo' := [(2, .int w15), (0, .ref 0), (1, .int ar1)]) rfl rfl rfl rfl ?_
      refine ev_loc f_X11_slack (nx := 20) rfl rfl rfl rfl ?_
      refine ev_ldW f_X11_slack (nx := 23) (v := 1000000000) rfl (by decide) rfl ?_
      refine ev_if f_X11_slack (t1 := 33) (t2 := 26) rfl rfl rfl (fun h16 => ?_) (fun h16 => ?_)
      · have u17 : w15.toInt ≤ 999999999 := t_ltu h16 (by decide : (1000000000:Int32).toInt ≤ (1000000000:Int)) rfl
        refine ev_bp f_X11_slack (nx := 35) (v := 60) rfl (by decide) rfl ?_
        refine ev_loc f_X11_slack (nx := 36) (lo' := [(3, .int 60), (2, .int w15), (0, .ref 0), (1, .int ar1)]) rfl rfl rfl rfl ?_
        have L18 : ∀ (m18 : Nat) (gi18 : Nat → Nat → Int32) (gl18 : Nat → Nat → Int64) (gr18 : Nat → Nat → Value) (y18_3 : Int32), t_I sh gi18 gr18 → t_X wl_d_slack sh gi gl gr gi18 gl18 gr18 → t_Rv sh gr18 a5 → t_Ln sh gr18 a6 → 0 ≤ y18_3.toInt → y18_3.toInt ≤ 60 → gr18 a5 7 = .ref a6 → gr18 0 6 = .ref a5 → (∀ (u : Nat) (D : s_D), gr 0 6 = .ref u → t_VL gr u → t_CV gi gl u D → t_Cb D → (u = 3 ∨ 102 ≤ u) → (∀ s : Nat, (s : Int) < D 1 → 0 ≤ D (56 + 5 * s) ∧ D (56 + 5 * s) ≤ 1) → s_DB D → s_KP D u gi18 gr18 ∧ w15.toInt = (s_LS (s_PD D (D 4)) 0 0 0 0) ∧ ((s_lg (s_sf D ar1.toInt) (s_LS (s_PD D (D 4)) 0 0 0 0) 60 : Nat) : Int) = ((s_lg (s_sf D ar1.toInt) (s_LS (s_PD D (D 4)) 0 0 0 0) y18_3.toNatClampNeg : Nat) : Int) ∧ 0 ≤ ar1.toInt ∧ ar1.toInt < D 1) → (y18_3.toInt - 0).toNat = m18 → x_Ev X (d + 19) n_X11_slack 36 [(3, .int y18_3), (2, .int w15), (0, .ref 0), (1, .int ar1)] [] (sh, gi18, gl18, gr18) (t_PI wl_d_slack sh gi gl gr (-1) 60 (Q_d_slack gi gl gr ar1)) := by
          intro m18
          induction m18 using Nat.strongRecOn with
          | _ m18 ih18 =>
          intro gi18 gl18 gr18 y18_3 hI hX p5 p6 l18_3 u18_3 c18_0 c18_1 j18_0 hm18
          refine ev_loc f_X11_slack (nx := 37) rfl rfl rfl rfl ?_
          have hXh := hX
          refine ev_if f_X11_slack (t1 := 77) (t2 := 40) rfl rfl rfl (fun h19 => ?_) (fun h19 => ?_)
          · have u20 : y18_3.toInt ≤ 0 := t_leu h19 (by decide : (0:Int32).toInt ≤ (0:Int))
            refine ev_loc f_X11_slack (nx := 78) rfl rfl rfl rfl ?_
            refine ev_ic f_X11_slack (nx := 79) (v := 0) rfl (by decide) rfl ?_
            refine ev_inV2 f_X11_slack (nx := 82) (lo2 := [(0, .ref 0), (1, .int 0)]) rfl rfl rfl rfl f_X11_answer (hI.wf.s rfl) rfl rfl rfl rfl rfl ?_
            refine ev_loc f_X11_answer (nx := 1) rfl rfl rfl rfl ?_
            refine ev_ic f_X11_answer (nx := 2) (v := 0) rfl (by decide) rfl ?_
            refine ev_putIT f_X11_answer (nx := 5) rfl (hI.wf.s rfl) rfl rfl rfl (hI.put0 (hI.wf.s rfl) rfl rfl) (hX.upI rfl) (fun g21 e21 hI hX => ?_)
            refine ev_loc f_X11_answer (nx := 6) rfl rfl rfl rfl ?_
            refine ev_retK1 f_X11_answer rfl rfl rfl ?_
            exact ev_ret f_X11_slack rfl rfl rfl ⟨_, _, _, rfl, hI, hX, ⟨_, rfl, (Int.le_trans (by decide : ((-1):Int) ≤ 0) (by decide : (0:Int) ≤ (0:Int32).toInt)), (Int.le_trans (by decide : (0:Int32).toInt ≤ (0:Int)) (by decide : (0:Int) ≤ 60)), (show ∀ (u : Nat) (D : s_D), gr 0 6 = .ref u → t_VL gr u → t_CV gi gl u D → t_Cb D → (u = 3 ∨ 102 ≤ u) → (∀ s : Nat, (s : Int) < D 1 → 0 ≤ D (56 + 5 * s) ∧ D (56 + 5 * s) ≤ 1) → s_DB D → ((0 ≤ ar1.toInt ∧ ar1.toInt < D 1 ∧ (s_LS (s_PD D (D 4)) 0 0 0 0) < 1000000000) → (0 : Int) = ((s_lg (s_sf D ar1.toInt) (s_LS (s_PD D (D 4)) 0 0 0 0) 60 : Nat) : Int)) ∧ (¬ (0 ≤ ar1.toInt ∧ ar1.toInt < D 1 ∧ (s_LS (s_PD D (D 4)) 0 0 0 0) < 1000000000) → (0 : Int) = -1) from (by
                                                            intro u D hu hl hc hb hv hsl hd
                                                            obtain ⟨g1, g2, g3, g4, g5⟩ := j18_0 u D hu hl hc hb hv hsl hd
                                                            have hr := s_lg_0 g3 (by omega) (by omega)
                                                            exact ⟨fun _ => hr.symm, fun h => absurd (show _ from ⟨g4, g5, by omega⟩) h⟩))⟩⟩
          · have l22 : 1 ≤ y18_3.toInt := t_ltl (t_nle h19) (by decide : (0:Int) ≤ (0:Int32).toInt) rfl
            refine ev_loc f_X11_slack (nx := 41) rfl rfl rfl rfl ?_
            refine ev_getR f_X11_slack (nx := 44) rfl (hI.wf.s rfl) rfl rfl (hI.wf.r rfl) rfl rfl ?_
            refine ev_loc f_X11_slack (nx := 45) rfl rfl rfl rfl ?_
            refine ev_getR f_X11_slack (nx := 48) (v := .ref a5) rfl (hI.wf.s rfl) rfl rfl c18_1 rfl rfl ?_
            refine ev_ic f_X11_slack (nx := 49) (v := 0) rfl (by decide) rfl ?_
            refine ev_loc f_X11_slack (nx := 50) rfl rfl rfl rfl ?_
            refine ev_loc f_X11_slack (nx := 51) rfl rfl rfl rfl ?_
            refine ev_qN f_X11_slack (nx := 54) (r := []) rfl rfl rfl rfl rfl rfl rfl (c_d_takeShipsG hI (a5) p5 (0) (ar1) (y18_3) (Int.le_trans (by decide : (0:Int) ≤ 1) l22) (Int.le_trans u18_3 (by decide : (60:Int) ≤ 500))) rfl hX rfl (fun gi23 gl23 gr23 hI hX hC23 q23 => ?_)
            have q23 : ∀ D : s_D, t_VL gr18 a5 → t_CV gi18 gl18 a5 D → (a5 = 3 ∨ 102 ≤ a5) → t_Cb D → s_DB D → (∀ s : Nat, (s : Int) < D 1 → 0 ≤ D (56 + 5 * s) ∧ D (56 + 5 * s) ≤ 1) → (gi23 29 0).toInt = ((s_fn (s_mk (0 : Int32)) (D 1).toNat : Nat) : Int) ∧ s_RF (s_ff (s_Al (s_A D) ar1.toInt y18_3.toInt) (s_mk (0 : Int32)) (D 1).toNat) (fun k => (k : Int)) (gi23 30) (s_fn (s_mk (0 : Int32)) (D 1).toNat) ∧ s_RF (s_ff (s_Al (s_A D) ar1.toInt y18_3.toInt) (s_mk (0 : Int32)) (D 1).toNat) (s_Al (s_A D) ar1.toInt y18_3.toInt) (gi23 31) (s_fn (s_mk (0 : Int32)) (D 1).toNat) ∧ s_RF (s_ff (s_Al (s_A D) ar1.toInt y18_3.toInt) (s_mk (0 : Int32)) (D 1).toNat) (fun k => D (54 + 5 * k)) (gi23 32) (s_fn (s_mk (0 : Int32)) (D 1).toNat) ∧ s_RF (s_ff (s_Al (s_A D) ar1.toInt y18_3.toInt) (s_mk (0 : Int32)) (D 1).toNat) (fun k => D (55 + 5 * k)) (gi23 33) (s_fn (s_mk (0 : Int32)) (D 1).toNat) ∧ s_RF (s_ff (s_Al (s_A D) ar1.toInt y18_3.toInt) (s_mk (0 : Int32)) (D 1).toNat) (fun k => D (56 + 5 * k)) (gi23 34) (s_fn (s_mk (0 : Int32)) (D 1).toNat) := q23
            replace p6 := p6.ext hC23.2
            replace p5 := p5.ext hC23.2
            refine ev_loc f_X11_slack (nx := 55) rfl rfl rfl rfl ?_
            have hXi := hX
            refine ev_getR f_X11_slack (nx := 58) rfl (hI.wf.s rfl) rfl rfl (hI.wf.r rfl) rfl rfl ?_
            refine ev_loc f_X11_slack (nx := 59) rfl rfl rfl rfl ?_
            refine ev_inV2 f_X11_slack (nx := 62) (lo2 := [(0, .ref 28), (1, .int w15)]) rfl rfl rfl rfl f_X1_canPassWithin (hI.wf.s rfl) rfl rfl rfl rfl rfl ?_
            refine ev_loc f_X1_canPassWithin (nx := 1) rfl rfl rfl rfl ?_
            refine ev_ic f_X1_canPassWithin (nx := 2) (v := 0) rfl (by decide) rfl ?_
            refine ev_ic f_X1_canPassWithin (nx := 3) (v := 0) rfl (by decide) rfl ?_
            refine ev_ic f_X1_canPassWithin (nx := 4) (v := 0) rfl (by decide) rfl ?_
            refine ev_ic f_X1_canPassWithin (nx := 5) (v := 0) rfl (by decide) rfl ?_
            refine ev_loc f_X1_canPassWithin (nx := 6) rfl rfl rfl rfl ?_
            refine ev_qI f_X1_canPassWithin (nx := 9) (r := []) rfl rfl rfl rfl rfl rfl rfl (c_d_canEndWithin hI (0) (0) (by decide : (0:Int) ≤ (0:Int32).toInt) (Int.le_trans (by decide : (0:Int32).toInt ≤ (0:Int)) (by decide : (0:Int) ≤ 1)) (0) (by decide : (0:Int) ≤ (0:Int32).toInt) (Int.le_trans (by decide : (0:Int32).toInt ≤ (0:Int)) (by decide : (0:Int) ≤ 6)) (0) (by decide : (0:Int) ≤ (0:Int32).toInt) (Int.le_trans (by decide : (0:Int32).toInt ≤ (0:Int)) (by decide : (0:Int) ≤ 6)) (w15)) rfl hX rfl (fun w24 gi24 gl24 gr24 l24 u24 hI hX hC24 q24 => ?_)
            have q24 : ∀ P : Nat → Nat → Int, s_CP P gi23 gr23 → s_PB P → s_PO P → 0 ≤ (0 : Int) → (0 : Int) ≤ 2000 → (0 : Int) ≤ P 0 0 → (0 : Int) ≤ P 0 1 → 0 ≤ w15.toInt → w15.toInt ≤ 999999999 → (w24.toInt = 1 ↔ s_LS P (0 : Int) (0 : Int32).toNatClampNeg (0 : Int32).toNatClampNeg (0 : Int32).toNatClampNeg ≤ w15.toInt) := q24
            replace p6 := p6.ext hC24.2
            replace p5 := p5.ext hC24.2
            refine ev_retK1 f_X1_canPassWithin rfl rfl (t_rz l24 u24) ?_
            refine ev_if f_X11_slack (t1 := 71) (t2 := 65) rfl rfl rfl (fun h25 => ?_) (fun h25 => ?_)
            · have u26 : w24.toInt ≤ 0 := t_equ h25 (by decide : (0:Int32).toInt ≤ (0:Int))
              refine ev_incR f_X11_slack (nx := 74) (c := (-1)) (l := 0) (u := 59) rfl rfl (by decide) (by decide) l22 u18_3 rfl rfl (by decide) (by decide) rfl (fun z27 e27 l27 u27 => ?_)
              refine ev_jmp f_X11_slack (nx := 36) rfl rfl rfl ?_
              refine ev_sub (lo := [(3, .int z27), (2, .int w15), (0, .ref 0), (1, .int ar1)]) rfl (t_sc rfl (t_sc rfl (t_sc rfl (t_sc rfl t_sn)))) ?_
              exact ih18 _ (by omega) gi24 gl24 gr24 (z27) hI hX p5 p6 l27 (Int.le_trans u27 (by decide : (59:Int) ≤ 60)) ((hC24.1 a5 7 (t_ninO hI.wf p5.1 (t_outO hI.wf p5.1 rfl) rfl)).2.2.trans ((hC23.1 a5 7 (t_ninO hI.wf p5.1 (t_outO hI.wf p5.1 rfl) rfl)).2.2.trans c18_0)) ((hC24.1 0 6 rfl).2.2.trans ((hC23.1 0 6 rfl).2.2.trans c18_1)) (by
                                                            intro u D hu hl hc hb hv hsl hd
                                                            obtain ⟨g1, g2, g3, g4, g5⟩ := j18_0 u D hu hl hc hb hv hsl hd
                                                            have hun : gr18 0 6 = .ref u := ((t_F_X hXh) 0 6 (by decide) rfl).2.2.trans hu
                                                            have ha := Value.ref.inj (c18_1.symm.trans hun)
                                                            subst ha
                                                            have hKh := t_nd_fr hXh rfl
                                                            have hlh := hl.fr (fun K k1 k2 => hKh K (by omega))
                                                            have hch := hc.fr (fun K k1 k2 => hKh K (by omega))
                                                            have hs := q23 D hlh hch hv hb hd hsl
                                                            have hKi := t_nd_fr hXi rfl
                                                            have hci := hc.fr (fun K k1 k2 => hKi K (by omega))
                                                            have c1 := t_clamp (i := y18_3) (by omega)
                                                            have hAb := s_Al_b (w := ar1.toInt) (l := y18_3.toInt) hd (by omega) (by omega)
                                                            have hcp := (g1.fr hC23 rfl).cp hv hci hs.1 hs.2.2.1 hs.2.2.2.1 hs.2.2.2.2.1 hs.2.2.2.2.2
                                                            have hPO := s_PX_O (q := D 4) (m := 0) (x := -1) hb hd hd.2.2.1.1 hAb.1
                                                            have hPB := s_PX_B (q := D 4) (m := 0) (x := -1) hb hd ⟨hd.2.2.1.1, hd.2.2.1.2⟩ hAb.2
                                                            have hlo := s_LS_lo (s_PD_O hb hd hd.2.2.1.1) 0 0 0 0
                                                            have hcw := q24 _ hcp hPB hPO (by decide) (by decide) hPB.1.1 hPB.1.2.2.1 (by omega) (by omega)
                                                            rw [← c1, g2] at hcw
                                                            have hno : ¬ s_sf _ ar1.toInt y18_3.toNatClampNeg ≤ _ := fun hh => by have h9 := hcw.mpr hh; omega
                                                            exact ⟨(g1.fr hC23 rfl).fr hC24 rfl, g2, s_lg_dn g3 (by omega) hno (by omega), g4, g5⟩) rfl
            · have r28 : w24.toInt ≠ 0 := fun e => h25 (Int32.toInt_inj.mp (e.trans (by decide : (0:Int) = (0 : Int32).toInt)))
              have l29 : 1 ≤ w24.toInt := t_nel h25 l24 rfl rfl
              refine ev_loc f_X11_slack (nx := 66) rfl rfl rfl rfl ?_
              refine ev_loc f_X11_slack (nx := 67) rfl rfl rfl rfl ?_
              refine ev_inV2 f_X11_slack (nx := 70) (lo2 := [(0, .ref 0), (1, .int y18_3)]) rfl rfl rfl rfl f_X11_answer (hI.wf.s rfl) rfl rfl rfl rfl rfl ?_
              refine ev_loc f_X11_answer (nx := 1) rfl rfl rfl rfl ?_
              refine ev_ic f_X11_answer (nx := 2) (v := 0) rfl (by decide) rfl ?_
              refine ev_putIT f_X11_answer (nx := 5) rfl (hI.wf.s rfl) rfl rfl rfl (hI.put0 (hI.wf.s rfl) rfl rfl) (hX.upI rfl) (fun g30 e30 hI hX => ?_)
              refine ev_loc f_X11_answer (nx := 6) rfl rfl rfl rfl ?_
              refine ev_retK1 f_X11_answer rfl rfl rfl ?_
              exact ev_ret f_X11_slack rfl rfl rfl ⟨_, _, _, rfl, hI, hX, ⟨_, rfl, (Int.le_trans (by decide : ((-1):Int) ≤ 1) l22), u18_3, (show ∀ (u : Nat) (D : s_D), gr 0 6 = .ref u → t_VL gr u → t_CV gi gl u D → t_Cb D → (u = 3 ∨ 102 ≤ u) → (∀ s : Nat, (s : Int) < D 1 → 0 ≤ D (56 + 5 * s) ∧ D (56 + 5 * s) ≤ 1) → s_DB D → ((0 ≤ ar1.toInt ∧ ar1.toInt < D 1 ∧ (s_LS (s_PD D (D 4)) 0 0 0 0) < 1000000000) → y18_3.toInt = ((s_lg (s_sf D ar1.toInt) (s_LS (s_PD D (D 4)) 0 0 0 0) 60 : Nat) : Int)) ∧ (¬ (0 ≤ ar1.toInt ∧ ar1.toInt < D 1 ∧ (s_LS (s_PD D (D 4)) 0 0 0 0) < 1000000000) → y18_3.toInt = -1) from (by
                                                            intro u D hu hl hc hb hv hsl hd
                                                            obtain ⟨g1, g2, g3, g4, g5⟩ := j18_0 u D hu hl hc hb hv hsl hd
                                                            have hun : gr18 0 6 = .ref u := ((t_F_X hXh) 0 6 (by decide) rfl).2.2.trans hu
                                                            have ha := Value.ref.inj (c18_1.symm.trans hun)
                                                            subst ha
                                                            have hKh := t_nd_fr hXh rfl
                                                            have hlh := hl.fr (fun K k1 k2 => hKh K (by omega))
                                                            have hch := hc.fr (fun K k1 k2 => hKh K (by omega))
                                                            have hs := q23 D hlh hch hv hb hd hsl
                                                            have hKi := t_nd_fr hXi rfl
                                                            have hci := hc.fr (fun K k1 k2 => hKi K (by omega))
                                                            have c1 := t_clamp (i := y18_3) (by omega)
                                                            have hAb := s_Al_b (w := ar1.toInt) (l := y18_3.toInt) hd (by omega) (by omega)
                                                            have hcp := (g1.fr hC23 rfl).cp hv hci hs.1 hs.2.2.1 hs.2.2.2.1 hs.2.2.2.2.1 hs.2.2.2.2.2
                                                            have hPO := s_PX_O (q := D 4) (m := 0) (x := -1) hb hd hd.2.2.1.1 hAb.1
                                                            have hPB := s_PX_B (q := D 4) (m := 0) (x := -1) hb hd ⟨hd.2.2.1.1, hd.2.2.1.2⟩ hAb.2
                                                            have hlo := s_LS_lo (s_PD_O hb hd hd.2.2.1.1) 0 0 0 0
                                                            have hcw := q24 _ hcp hPB hPO (by decide) (by decide) hPB.1.1 hPB.1.2.2.1 (by omega) (by omega)
                                                            rw [← c1, g2] at hcw
                                                            have hyes : s_sf _ ar1.toInt y18_3.toNatClampNeg ≤ _ := hcw.mp (by omega)
                                                            have hr := s_lg_at g3 (by omega) hyes
                                                            exact ⟨fun _ => hr.symm, fun h => absurd (show _ from ⟨g4, g5, by omega⟩) h⟩))⟩⟩
        refine ev_sub (lo := [(3, .int 60), (2, .int w15), (0, .ref 0), (1, .int ar1)]) rfl (t_sc rfl (t_sc rfl (t_sc rfl (t_sc rfl t_sn)))) ?_
        exact L18 _ gi15 gl15 gr15 (60) hI hX p5 p6 (Int.le_trans (by decide : (0:Int) ≤ 60) (by decide : (60:Int) ≤ (60:Int32).toInt)) (by decide : (60:Int32).toInt ≤ (60:Int)) ((hC15.1 a5 7 (t_ninO hI.wf p5.1 (t_outO hI.wf p5.1 rfl) rfl)).2.2.trans ((hC14.1 a5 7 (t_ninO hI.wf p5.1 (t_outO hI.wf p5.1 rfl) rfl)).2.2.trans e6)) ((hC15.1 0 6 rfl).2.2.trans ((hC14.1 0 6 rfl).2.2.trans e5)) (by
                                                            intro u D hu hl hc hb hv hsl hd
                                                            have ha : a5 = u := Value.ref.inj (e5.symm.trans hu)
                                                            subst ha
                                                            have hb1 : (a5 + 3) = a6 := Value.ref.inj ((hl.1.2.2.2.1).symm.trans e6)
                                                            subst hb1
                                                            have hL := hc.2.2.1.1
                                                            have hq := q14 D hl hc hv hb hsl
                                                            have hq2 := q15 _ hq.1 (s_PD_B hb hd ⟨hd.2.2.1.1, hd.2.2.1.2⟩) (s_PD_O hb hd hd.2.2.1.1)
                                                            exact ⟨(s_KP_of hq.1 hq.2.1 hq.2.2.2).fr hC15 rfl, hq2, rfl, by omega, by omega⟩) rfl
      · have l31 : 1000000000 ≤ w15.toInt := t_lel (t_nlt h16) (by decide : (1000000000:Int) ≤ (1000000000:Int32).toInt)
        refine ev_loc f_X11_slack (nx := 27) rfl rfl rfl rfl ?_
        refine ev_bp f_X11_slack (nx := 29) (v := 6) rfl (by decide) rfl ?_
        refine ev_inV2 f_X11_slack (nx := 32) (lo2 := [(0, .ref 0), (1, .int 6)]) rfl rfl rfl rfl f_X11_refuse (hI.wf.s rfl) rfl rfl rfl rfl rfl ?_
        refine ev_loc f_X11_refuse (nx := 1) rfl rfl rfl rfl ?_
        refine ev_loc f_X11_refuse (nx := 2) rfl rfl rfl rfl ?_
        refine ev_putIT f_X11_refuse (nx := 5) rfl (hI.wf.s rfl) rfl rfl rfl (hI.put0 (hI.wf.s rfl) rfl rfl) (hX.upI rfl) (fun g32 e32 hI hX => ?_)
        refine ev_ic f_X11_refuse (nx := 6) (v := -1) rfl (by decide) rfl ?_
        refine ev_retK1 f_X11_refuse rfl rfl rfl ?_
        exact ev_ret f_X11_slack rfl rfl rfl ⟨_, _, _, rfl, hI, hX, ⟨_, rfl, (by decide : ((-1):Int) ≤ ((-1):Int32).toInt), (Int.le_trans (by decide : ((-1):Int32).toInt ≤ ((-1):Int)) (by decide : ((-1):Int) ≤ 60)), (show ∀ (u : Nat) (D : s_D), gr 0 6 = .ref u → t_VL gr u → t_CV gi gl u D → t_Cb D → (u = 3 ∨ 102 ≤ u) → (∀ s : Nat, (s : Int) < D 1 → 0 ≤ D (56 + 5 * s) ∧ D (56 + 5 * s) ≤ 1) → s_DB D → ((0 ≤ ar1.toInt ∧ ar1.toInt < D 1 ∧ (s_LS (s_PD D (D 4)) 0 0 0 0) < 1000000000) → ((-1) : Int) = ((s_lg (s_sf D ar1.toInt) (s_LS (s_PD D (D 4)) 0 0 0 0) 60 : Nat) : Int)) ∧ (¬ (0 ≤ ar1.toInt ∧ ar1.toInt < D 1 ∧ (s_LS (s_PD D (D 4)) 0 0 0 0) < 1000000000) → ((-1) : Int) = -1) from (by
                                                            intro u D hu hl hc hb hv hsl hd
                                                            have ha : a5 = u := Value.ref.inj (e5.symm.trans hu)
                                                            subst ha
                                                            have hb1 : (a5 + 3) = a6 := Value.ref.inj ((hl.1.2.2.2.1).symm.trans e6)
                                                            subst hb1
                                                            have hL := hc.2.2.1.1
                                                            have hq := q14 D hl hc hv hb hsl
                                                            have hq2 := q15 _ hq.1 (s_PD_B hb hd ⟨hd.2.2.1.1, hd.2.2.1.2⟩) (s_PD_O hb hd hd.2.2.1.1)
                                                            exact ⟨fun h => absurd h.2.2 (by omega), fun _ => rfl⟩))⟩⟩
/-! ===== printed by riv.py: slack: the other side ===== -/
noncomputable def wl_e_slack : List (Nat × Nat) := [(69, 2), (69, 44), (69, 45), (69, 48), (89, 10005), (89, 610011), (90, 9999), (91, 9999), (92, 9999)]
noncomputable def Q_e_slack (gi : Nat → Nat → Int32) (gl : Nat → Nat → Int64) (gr : Nat → Nat → Value) (ar1 : Int32) : Int32 → (Nat → Nat → Int32) → (Nat → Nat → Int64) → (Nat → Nat → Value) → Prop := fun (v : Int32) (gi2 : Nat → Nat → Int32) (gl2 : Nat → Nat → Int64) (gr2 : Nat → Nat → Value) => ∀ D : s_D, t_ME 0 gi D → t_Cb D → s_DB D → (gi 69 46).toInt = -1 → ((0 ≤ ar1.toInt ∧ ar1.toInt < D 1 ∧ (s_LS (s_PD D (D 4)) 0 0 0 0) < 1000000000) → v.toInt = ((s_lg (s_sf D ar1.toInt) (s_LS (s_PD D (D 4)) 0 0 0 0) 60 : Nat) : Int)) ∧ (¬ (0 ≤ ar1.toInt ∧ ar1.toInt < D 1 ∧ (s_LS (s_PD D (D 4)) 0 0 0 0) < 1000000000) → v.toInt = -1)
theorem c_e_slack {X : x_Ext} {d : Nat} {sh : List (Nat ⊕ (Nat × Nat))} {gi : Nat → Nat → Int32} {gl : Nat → Nat → Int64} {gr : Nat → Nat → Value} (hI : t_I sh gi gr) (ar1 : Int32) (e_p0 : 1 ≤ (gi 70 4).toInt) : x_Me X (d + 6) n_X12_slack [.ref 69, .int ar1] (sh, gi, gl, gr) (t_PI wl_e_slack sh gi gl gr (-1) 60 (Q_e_slack gi gl gr ar1)) := by
  have hX : t_X wl_e_slack sh gi gl gr gi gl gr := t_X.rf
  refine me_i f_X12_slack (hI.wf.s rfl) rfl rfl rfl ?_
  obtain ⟨l2, u2⟩ := hI.ab (by decide +kernel : t_abr 70 4 4 0 20 = true) (Nat.le_refl _) (Nat.le_refl _)
  refine ev_loc f_X12_slack (nx := 1) rfl rfl rfl rfl ?_
  refine ev_loc f_X12_slack (nx := 2) rfl rfl rfl rfl ?_
  refine ev_inV2 f_X12_slack (nx := 5) (lo2 := [(0, .ref 69), (1, .int ar1)]) rfl rfl rfl rfl f_X12_isShip (hI.wf.s rfl) rfl rfl rfl rfl rfl ?_
  refine ev_loc f_X12_isShip (nx := 1) rfl rfl rfl rfl ?_
  refine ev_if f_X12_isShip (t1 := 18) (t2 := 4) rfl rfl rfl (fun h3 => ?_) (fun h3 => ?_)
  · have u4 : ar1.toInt ≤ (-1) := t_ltu h3 (by decide : (0:Int32).toInt ≤ (0:Int)) rfl
    refine ev_ic f_X12_isShip (nx := 19) (v := 0) rfl (by decide) rfl ?_
    refine ev_retK1 f_X12_isShip rfl rfl rfl ?_
    refine ev_t f_X12_slack (t1 := 8) (t2 := 14) rfl rfl rfl (by decide) ?_
    refine ev_loc f_X12_slack (nx := 9) rfl rfl rfl rfl ?_
    refine ev_ic f_X12_slack (nx := 10) (v := 1) rfl (by decide) rfl ?_
    refine ev_inV2 f_X12_slack (nx := 13) (lo2 := [(0, .ref 69), (1, .int 1)]) rfl rfl rfl rfl f_X12_refuse (hI.wf.s rfl) rfl rfl rfl rfl rfl ?_
    refine ev_loc f_X12_refuse (nx := 1) rfl rfl rfl rfl ?_
    refine ev_loc f_X12_refuse (nx := 2) rfl rfl rfl rfl ?_
    refine ev_putIT f_X12_refuse (nx := 5) rfl (hI.wf.s rfl) rfl rfl rfl (hI.put0 (hI.wf.s rfl) rfl rfl) (hX.upI rfl) (fun g5 e5 hI hX => ?_)
    refine ev_ic f_X12_refuse (nx := 6) (v := -1) rfl (by decide) rfl ?_
    refine ev_retK1 f_X12_refuse rfl rfl rfl ?_
    exact ev_ret f_X12_slack rfl rfl rfl ⟨_, _, _, rfl, hI, hX, ⟨_, rfl, (by decide : ((-1):Int) ≤ ((-1):Int32).toInt), (Int.le_trans (by decide : ((-1):Int32).toInt ≤ ((-1):Int)) (by decide : ((-1):Int) ≤ 60)), (show ∀ D : s_D, t_ME 0 gi D → t_Cb D → s_DB D → (gi 69 46).toInt = -1 → ((0 ≤ ar1.toInt ∧ ar1.toInt < D 1 ∧ (s_LS (s_PD D (D 4)) 0 0 0 0) < 1000000000) → ((-1) : Int) = ((s_lg (s_sf D ar1.toInt) (s_LS (s_PD D (D 4)) 0 0 0 0) 60 : Nat) : Int)) ∧ (¬ (0 ≤ ar1.toInt ∧ ar1.toInt < D 1 ∧ (s_LS (s_PD D (D 4)) 0 0 0 0) < 1000000000) → ((-1) : Int) = -1) from (by
                                                            intro D hm hb hd h46
                                                            have ha : (gi 70 1).toInt = D 1 := hm.1.1.2.1
                                                            exact ⟨fun h => absurd (And.intro h.1 h.2.1) (by omega), fun _ => rfl⟩))⟩⟩
  · have l6 : 0 ≤ ar1.toInt := t_lel (t_nlt h3) (by decide : (0:Int) ≤ (0:Int32).toInt)
    refine ev_loc f_X12_isShip (nx := 5) rfl rfl rfl rfl ?_
    refine ev_loc f_X12_isShip (nx := 6) rfl rfl rfl rfl ?_
    refine ev_getR f_X12_isShip (nx := 9) rfl (hI.wf.s rfl) rfl rfl (hI.wf.r rfl) rfl rfl ?_
    refine ev_ic f_X12_isShip (nx := 10) (v := 1) rfl (by decide) rfl ?_
    obtain ⟨l7, u7⟩ := hI.ab (by decide +kernel : t_abr 70 1 1 0 6 = true) (Nat.le_refl _) (Nat.le_refl _)
    refine ev_ialdv f_X12_isShip (nx := 11) (w := (gi 70 1)) rfl (hI.wf.s rfl) (by decide) (rfl : (1 : Int32).toNatClampNeg = 1) (by decide) rfl rfl ?_
    refine ev_if f_X12_isShip (t1 := 18) (t2 := 14) rfl rfl rfl (fun h8 => ?_) (fun h8 => ?_)
    · have r9 : (gi 70 1).toInt ≤ ar1.toInt := Int32.le_iff_toInt_le.mp h8
      refine ev_ic f_X12_isShip (nx := 19) (v := 0) rfl (by decide) rfl ?_
      refine ev_retK1 f_X12_isShip rfl rfl rfl ?_
      refine ev_t f_X12_slack (t1 := 8) (t2 := 14) rfl rfl rfl (by decide) ?_
      refine ev_loc f_X12_slack (nx := 9) rfl rfl rfl rfl ?_
      refine ev_ic f_X12_slack (nx := 10) (v := 1) rfl (by decide) rfl ?_
      refine ev_inV2 f_X12_slack (nx := 13) (lo2 := [(0, .ref 69), (1, .int 1)]) rfl rfl rfl rfl f_X12_refuse (hI.wf.s rfl) rfl rfl rfl rfl rfl ?_
      refine ev_loc f_X12_refuse (nx := 1) rfl rfl rfl rfl ?_
      refine ev_loc f_X12_refuse (nx := 2) rfl rfl rfl rfl ?_
      refine ev_putIT f_X12_refuse (nx := 5) rfl (hI.wf.s rfl) rfl rfl rfl (hI.put0 (hI.wf.s rfl) rfl rfl) (hX.upI rfl) (fun g10 e10 hI hX => ?_)
      refine ev_ic f_X12_refuse (nx := 6) (v := -1) rfl (by decide) rfl ?_
      refine ev_retK1 f_X12_refuse rfl rfl rfl ?_
      exact ev_ret f_X12_slack rfl rfl rfl ⟨_, _, _, rfl, hI, hX, ⟨_, rfl, (by decide : ((-1):Int) ≤ ((-1):Int32).toInt), (Int.le_trans (by decide : ((-1):Int32).toInt ≤ ((-1):Int)) (by decide : ((-1):Int) ≤ 60)), (show ∀ D : s_D, t_ME 0 gi D → t_Cb D → s_DB D → (gi 69 46).toInt = -1 → ((0 ≤ ar1.toInt ∧ ar1.toInt < D 1 ∧ (s_LS (s_PD D (D 4)) 0 0 0 0) < 1000000000) → ((-1) : Int) = ((s_lg (s_sf D ar1.toInt) (s_LS (s_PD D (D 4)) 0 0 0 0) 60 : Nat) : Int)) ∧ (¬ (0 ≤ ar1.toInt ∧ ar1.toInt < D 1 ∧ (s_LS (s_PD D (D 4)) 0 0 0 0) < 1000000000) → ((-1) : Int) = -1) from (by
                                                            intro D hm hb hd h46
                                                            have ha : (gi 70 1).toInt = D 1 := hm.1.1.2.1
                                                            exact ⟨fun h => absurd (And.intro h.1 h.2.1) (by omega), fun _ => rfl⟩))⟩⟩
    · have r11 : ar1.toInt < (gi 70 1).toInt := Int32.lt_iff_toInt_lt.mp (t_nle h8)
      have u12 : ar1.toInt ≤ 5 := t_ltu (t_nle h8) u7 rfl
      have l13 : 1 ≤ (gi 70 1).toInt := t_ltl (t_nle h8) l6 rfl
      refine ev_ic f_X12_isShip (nx := 15) (v := 1) rfl (by decide) rfl ?_
      refine ev_jmp f_X12_isShip (nx := 19) rfl rfl rfl ?_
      refine ev_retK1 f_X12_isShip rfl rfl rfl ?_
      refine ev_f f_X12_slack (t1 := 8) (t2 := 14) rfl rfl rfl (by decide) ?_
      refine ev_loc f_X12_slack (nx := 15) rfl rfl rfl rfl ?_
      refine ev_ic f_X12_slack (nx := 16) (v := 0) rfl (by decide) rfl ?_
      refine ev_loc f_X12_slack (nx := 17) rfl rfl rfl rfl ?_
      refine ev_getR f_X12_slack (nx := 20) rfl (hI.wf.s rfl) rfl rfl (hI.wf.r rfl) rfl rfl ?_
      refine ev_ic f_X12_slack (nx := 21) (v := 4) rfl (by decide) rfl ?_
      refine ev_ialdv f_X12_slack (nx := 22) (w := (gi 70 4)) rfl (hI.wf.s rfl) (by decide) (rfl : (4 : Int32).toNatClampNeg = 4) (by decide) rfl rfl ?_
      refine ev_qI f_X12_slack (nx := 25) (r := []) rfl rfl rfl rfl rfl rfl rfl (c_n_leastBy hI ((gi 70 4)) l2 u2 (by omega)) rfl hX rfl (fun w15 gi15 gl15 gr15 l15 u15 hI hX hC15 q15 => ?_)
      have q15 : ∀ D : s_D, t_ME 0 gi D → t_Cb D → s_DB D → (gi 69 46).toInt = -1 → w15.toInt = s_an (s_LS (s_PD D (gi 70 4).toInt) 0 0 0 0) := q15
      refine ev_loc f_X12_slack (nx := 26) (lo' := [(2, .int w15), (0, .ref 69), (1, .int ar1)]) rfl rfl rfl rfl ?_
      refine ev_loc f_X12_slack (nx := 27) rfl rfl rfl rfl ?_
      refine ev_ic f_X12_slack (nx := 28) (v := -1) rfl (by decide) rfl ?_
      refine ev_if f_X12_slack (t1 := 31) (t2 := 38) rfl rfl rfl (fun h16 => ?_) (fun h16 => ?_)
      · have u17 : w15.toInt ≤ (-1) := t_equ h16 (by decide : ((-1):Int32).toInt ≤ ((-1):Int))
        have l18 : (-1) ≤ w15.toInt := t_eql h16 (by decide : ((-1):Int) ≤ ((-1):Int32).toInt)
        refine ev_loc f_X12_slack (nx := 32) rfl rfl rfl rfl ?_
        refine ev_bp f_X12_slack (nx := 34) (v := 6) rfl (by decide) rfl ?_
        refine ev_inV2 f_X12_slack (nx := 37) (lo2 := [(0, .ref 69), (1, .int 6)]) rfl rfl rfl rfl f_X12_refuse (hI.wf.s rfl) rfl rfl rfl rfl rfl ?_
        refine ev_loc f_X12_refuse (nx := 1) rfl rfl rfl rfl ?_
        refine ev_loc f_X12_refuse (nx := 2) rfl rfl rfl rfl ?_
        refine ev_putIT f_X12_refuse (nx := 5) rfl (hI.wf.s rfl) rfl rfl rfl (hI.put0 (hI.wf.s rfl) rfl rfl) (hX.upI rfl) (fun g19 e19 hI hX => ?_)
        refine ev_ic f_X12_refuse (nx := 6) (v := -1) rfl (by decide) rfl ?_
        refine ev_retK1 f_X12_refuse rfl rfl rfl ?_
        exact ev_ret f_X12_slack rfl rfl rfl ⟨_, _, _, rfl, hI, hX, ⟨_, rfl, (by decide : ((-1):Int) ≤ ((-1):Int32).toInt), (Int.le_trans (by decide : ((-1):Int32).toInt ≤ ((-1):Int)) (by decide : ((-1):Int) ≤ 60)), (show ∀ D : s_D, t_ME 0 gi D → t_Cb D → s_DB D → (gi 69 46).toInt = -1 → ((0 ≤ ar1.toInt ∧ ar1.toInt < D 1 ∧ (s_LS (s_PD D (D 4)) 0 0 0 0) < 1000000000) → ((-1) : Int) = ((s_lg (s_sf D ar1.toInt) (s_LS (s_PD D (D 4)) 0 0 0 0) 60 : Nat) : Int)) ∧ (¬ (0 ≤ ar1.toInt ∧ ar1.toInt < D 1 ∧ (s_LS (s_PD D (D 4)) 0 0 0 0) < 1000000000) → ((-1) : Int) = -1) from (by
                                                            intro D hm hb hd h46
                                                            have ha : (gi 70 1).toInt = D 1 := hm.1.1.2.1
                                                            have hq := q15 D hm hb hd h46
                                                            have h4 : (gi 70 4).toInt = D 4 := hm.1.2.1
                                                            rw [h4] at hq
                                                            have hl0 := s_LS_lo (s_PD_O (q := D 4) hb hd hd.2.2.1.1) 0 0 0 0
                                                            have hn := (s_an_n hl0).mp (by omega)
                                                            exact ⟨fun h => absurd h.2.2 (by omega), fun _ => rfl⟩))⟩⟩
      · have r20 : w15.toInt ≠ (-1) := fun e => h16 (Int32.toInt_inj.mp (e.trans (by decide : ((-1):Int) = ((-1) : Int32).toInt)))
        refine ev_ic f_X12_slack (nx := 39) (v := 0) rfl (by decide) rfl ?_
        refine ev_loc f_X12_slack (nx := 40) (lo' := [(3, .int 0), (2, .int w15), (0, .ref 69), (1, .int ar1)]) rfl rfl rfl rfl ?_
        refine ev_ic f_X12_slack (nx := 41) (v := 1) rfl (by decide) rfl ?_
        refine ev_loc f_X12_slack (nx := 43) (lo' := [(4, .int 1), (3, .int 0), (2, .int w15), (0, .ref 69), (1, .int ar1)]) rfl rfl rfl rfl ?_
        have L21 : ∀ (m21 : Nat) (gi21 : Nat → Nat → Int32) (gl21 : Nat → Nat → Int64) (gr21 : Nat → Nat → Value) (y21_4 : Int32) (y21_3 : Int32), t_I sh gi21 gr21 → t_X wl_e_slack sh gi gl gr gi21 gl21 gr21 → 1 ≤ y21_4.toInt → y21_4.toInt ≤ 61 → 0 ≤ y21_3.toInt → y21_3.toInt ≤ 60 → gi21 69 46 = (gi 69 46) → gi21 70 1 = (gi 70 1) → gi21 70 4 = (gi 70 4) → (∀ D : s_D, t_ME 0 gi D → t_Cb D → s_DB D → (gi 69 46).toInt = -1 → w15.toInt = (s_LS (s_PD D (D 4)) 0 0 0 0) ∧ y21_3.toInt = ((s_lg (s_sf D ar1.toInt) (s_LS (s_PD D (D 4)) 0 0 0 0) (y21_4.toNatClampNeg - 1) : Nat) : Int) ∧ 0 ≤ ar1.toInt ∧ ar1.toInt < D 1 ∧ (s_LS (s_PD D (D 4)) 0 0 0 0) < 1000000000) → (61 - y21_4.toInt).toNat = m21 → x_Ev X (d + 6) n_X12_slack 43 [(4, .int y21_4), (3, .int y21_3), (2, .int w15), (0, .ref 69), (1, .int ar1)] [] (sh, gi21, gl21, gr21) (t_PI wl_e_slack sh gi gl gr (-1) 60 (Q_e_slack gi gl gr ar1)) := by
          intro m21
          induction m21 using Nat.strongRecOn with
          | _ m21 ih21 =>
          intro gi21 gl21 gr21 y21_4 y21_3 hI hX l21_4 u21_4 l21_3 u21_3 c21_0 c21_1 c21_2 j21_0 hm21
          refine ev_loc f_X12_slack (nx := 45) rfl rfl rfl rfl ?_
          have hXh := hX
          refine ev_bp f_X12_slack (nx := 47) (v := 60) rfl (by decide) rfl ?_
          refine ev_if f_X12_slack (t1 := 80) (t2 := 50) rfl rfl rfl (fun h22 => ?_) (fun h22 => ?_)
          · have l23 : 61 ≤ y21_4.toInt := t_ltl h22 (by decide : (60:Int) ≤ (60:Int32).toInt) rfl
            refine ev_loc f_X12_slack (nx := 81) rfl rfl rfl rfl ?_
            refine ev_loc f_X12_slack (nx := 82) rfl rfl rfl rfl ?_
            refine ev_inV2 f_X12_slack (nx := 85) (lo2 := [(0, .ref 69), (1, .int y21_3)]) rfl rfl rfl rfl f_X12_gives (hI.wf.s rfl) rfl rfl rfl rfl rfl ?_
            refine ev_loc f_X12_gives (nx := 1) rfl rfl rfl rfl ?_
            refine ev_ic f_X12_gives (nx := 2) (v := 0) rfl (by decide) rfl ?_
            refine ev_putIT f_X12_gives (nx := 5) rfl (hI.wf.s rfl) rfl rfl rfl (hI.put0 (hI.wf.s rfl) rfl rfl) (hX.upI rfl) (fun g24 e24 hI hX => ?_)
            refine ev_loc f_X12_gives (nx := 6) rfl rfl rfl rfl ?_
            refine ev_retK1 f_X12_gives rfl rfl rfl ?_
            exact ev_ret f_X12_slack rfl rfl rfl ⟨_, _, _, rfl, hI, hX, ⟨_, rfl, (Int.le_trans (by decide : ((-1):Int) ≤ 0) l21_3), u21_3, (show ∀ D : s_D, t_ME 0 gi D → t_Cb D → s_DB D → (gi 69 46).toInt = -1 → ((0 ≤ ar1.toInt ∧ ar1.toInt < D 1 ∧ (s_LS (s_PD D (D 4)) 0 0 0 0) < 1000000000) → y21_3.toInt = ((s_lg (s_sf D ar1.toInt) (s_LS (s_PD D (D 4)) 0 0 0 0) 60 : Nat) : Int)) ∧ (¬ (0 ≤ ar1.toInt ∧ ar1.toInt < D 1 ∧ (s_LS (s_PD D (D 4)) 0 0 0 0) < 1000000000) → y21_3.toInt = -1) from (by
                                                            intro D hm hb hd h46
                                                            have ha : (gi 70 1).toInt = D 1 := hm.1.1.2.1
                                                            obtain ⟨g2, g3, g4, g5, g6⟩ := j21_0 D hm hb hd h46
                                                            have c1 := t_clamp (i := y21_4) (by omega)
                                                            rw [show y21_4.toNatClampNeg - 1 = 60 from (by omega)] at g3
                                                            exact ⟨fun _ => g3, fun h => absurd (show _ from ⟨g4, g5, g6⟩) h⟩))⟩⟩
          · have u25 : y21_4.toInt ≤ 60 := t_leu (t_nlt h22) (by decide : (60:Int32).toInt ≤ (60:Int))
            refine ev_loc f_X12_slack (nx := 51) rfl rfl rfl rfl ?_
            refine ev_loc f_X12_slack (nx := 52) rfl rfl rfl rfl ?_
            refine ev_loc f_X12_slack (nx := 54) rfl rfl rfl rfl ?_
            refine ev_qI f_X12_slack (nx := 57) (r := []) rfl rfl rfl rfl rfl rfl rfl (c_n_laterBy hI (ar1) l6 u12 (y21_4) (Int.le_trans (by decide : (0:Int) ≤ 1) l21_4) u25 (by
                                                            rw [t_F_nc (t_F_X hXh) rfl (by decide)]
                                                            exact e_p0)) rfl hX rfl (fun w26 gi26 gl26 gr26 l26 u26 hI hX hC26 q26 => ?_)
            have ff27 : (gi21 69 46).toInt = (gi 69 46).toInt := congrArg Int32.toInt c21_0
            have q26 : ∀ D : s_D, t_ME 0 gi21 D → t_Cb D → s_DB D → (gi21 69 46).toInt = -1 → ar1.toInt < D 1 → w26.toInt = s_an (s_LS (s_PX D (D 4) (s_Al (s_A D) ar1.toInt y21_4.toInt) 0 (-1)) 0 0 0 0) := q26
            refine ev_loc f_X12_slack (nx := 59) (lo' := [(5, .int w26), (4, .int y21_4), (3, .int y21_3), (2, .int w15), (0, .ref 69), (1, .int ar1)]) rfl rfl rfl rfl ?_
            refine ev_loc f_X12_slack (nx := 61) rfl rfl rfl rfl ?_
            refine ev_ic f_X12_slack (nx := 62) (v := -1) rfl (by decide) rfl ?_
            refine ev_if f_X12_slack (t1 := 74) (t2 := 65) rfl rfl rfl (fun h28 => ?_) (fun h28 => ?_)
            · have u29 : w26.toInt ≤ (-1) := t_equ h28 (by decide : ((-1):Int32).toInt ≤ ((-1):Int))
              have l30 : (-1) ≤ w26.toInt := t_eql h28 (by decide : ((-1):Int) ≤ ((-1):Int32).toInt)
              refine ev_incR f_X12_slack (nx := 77) (c := 1) (l := 2) (u := 61) rfl rfl (by decide) (by decide) l21_4 u25 rfl rfl (by decide) (by decide) rfl (fun z31 e31 l31 u31 => ?_)
              refine ev_jmp f_X12_slack (nx := 43) rfl rfl rfl ?_
              refine ev_sub (lo := [(4, .int z31), (3, .int y21_3), (2, .int w15), (0, .ref 69), (1, .int ar1)]) rfl (t_sc rfl (t_sc rfl (t_sc rfl (t_sc rfl (t_sc rfl t_sn))))) ?_
              exact ih21 _ (by omega) gi26 gl26 gr26 (z31) (y21_3) hI hX  (Int.le_trans (by decide : (1:Int) ≤ 2) l31) u31 l21_3 u21_3 ((hC26.1 69 46 rfl).1.trans c21_0) ((hC26.1 70 1 rfl).1.trans c21_1) ((hC26.1 70 4 rfl).1.trans c21_2) (by
                                                            intro D hm hb hd h46
                                                            have ha : (gi 70 1).toInt = D 1 := hm.1.1.2.1
                                                            obtain ⟨g2, g3, g4, g5, g6⟩ := j21_0 D hm hb hd h46
                                                            have fh := t_F_X hXh
                                                            have hmn : t_ME 0 gi21 D := hm.mv hb (fun j _ _ _ => congrFun (t_F_nc fh rfl (by decide)) (0 + j))
                                                            have k46 : (gi21 69 46).toInt = -1 := by rw [(fh 69 46 (by decide) rfl).1]; exact h46
                                                            have hq := q26 D hmn hb hd k46 (by omega)
                                                            have c1 := t_clamp (i := y21_4) (by omega)
                                                            rw [← c1] at hq
                                                            have hlo := s_sf_lo hb hd (s := ar1.toInt) (l := y21_4.toNatClampNeg) (by omega)
                                                            have hle := s_an_le hlo g6
                                                            have hq2 : w26.toInt = s_an (s_sf D ar1.toInt y21_4.toNatClampNeg) := hq
                                                            rw [← hq2] at hle
                                                            have hn : ¬ s_sf D ar1.toInt y21_4.toNatClampNeg ≤ s_LS (s_PD D (D 4)) 0 0 0 0 := fun h => absurd (hle.mpr h) (by omega)
                                                            exact ⟨g2, s_lg_up g3 (by omega) (by omega) (Or.inr ⟨hn, rfl⟩), g4, g5, g6⟩) rfl
            · have r32 : w26.toInt ≠ (-1) := fun e => h28 (Int32.toInt_inj.mp (e.trans (by decide : ((-1):Int) = ((-1) : Int32).toInt)))
              refine ev_loc f_X12_slack (nx := 67) rfl rfl rfl rfl ?_
              refine ev_loc f_X12_slack (nx := 68) rfl rfl rfl rfl ?_
              refine ev_if f_X12_slack (t1 := 74) (t2 := 71) rfl rfl rfl (fun h33 => ?_) (fun h33 => ?_)
              · have r34 : w15.toInt < w26.toInt := Int32.lt_iff_toInt_lt.mp h33
                have u35 : w15.toInt ≤ 999999998 := t_ltu h33 u26 rfl
                have l36 : (-2147483647) ≤ w26.toInt := t_ltl h33 l15 rfl
                refine ev_incR f_X12_slack (nx := 77) (c := 1) (l := 2) (u := 61) rfl rfl (by decide) (by decide) l21_4 u25 rfl rfl (by decide) (by decide) rfl (fun z37 e37 l37 u37 => ?_)
                refine ev_jmp f_X12_slack (nx := 43) rfl rfl rfl ?_
                refine ev_sub (lo := [(4, .int z37), (3, .int y21_3), (2, .int w15), (0, .ref 69), (1, .int ar1)]) rfl (t_sc rfl (t_sc rfl (t_sc rfl (t_sc rfl (t_sc rfl t_sn))))) ?_
                exact ih21 _ (by omega) gi26 gl26 gr26 (z37) (y21_3) hI hX  (Int.le_trans (by decide : (1:Int) ≤ 2) l37) u37 l21_3 u21_3 ((hC26.1 69 46 rfl).1.trans c21_0) ((hC26.1 70 1 rfl).1.trans c21_1) ((hC26.1 70 4 rfl).1.trans c21_2) (by
                                                            intro D hm hb hd h46
                                                            have ha : (gi 70 1).toInt = D 1 := hm.1.1.2.1
                                                            obtain ⟨g2, g3, g4, g5, g6⟩ := j21_0 D hm hb hd h46
                                                            have fh := t_F_X hXh
                                                            have hmn : t_ME 0 gi21 D := hm.mv hb (fun j _ _ _ => congrFun (t_F_nc fh rfl (by decide)) (0 + j))
                                                            have k46 : (gi21 69 46).toInt = -1 := by rw [(fh 69 46 (by decide) rfl).1]; exact h46
                                                            have hq := q26 D hmn hb hd k46 (by omega)
                                                            have c1 := t_clamp (i := y21_4) (by omega)
                                                            rw [← c1] at hq
                                                            have hlo := s_sf_lo hb hd (s := ar1.toInt) (l := y21_4.toNatClampNeg) (by omega)
                                                            have hle := s_an_le hlo g6
                                                            have hq2 : w26.toInt = s_an (s_sf D ar1.toInt y21_4.toNatClampNeg) := hq
                                                            rw [← hq2] at hle
                                                            have hn : ¬ s_sf D ar1.toInt y21_4.toNatClampNeg ≤ s_LS (s_PD D (D 4)) 0 0 0 0 := fun h => absurd (hle.mpr h) (by omega)
                                                            exact ⟨g2, s_lg_up g3 (by omega) (by omega) (Or.inr ⟨hn, rfl⟩), g4, g5, g6⟩) rfl
              · have r38 : w26.toInt ≤ w15.toInt := Int32.le_iff_toInt_le.mp (t_nlt h33)
                refine ev_loc f_X12_slack (nx := 73) rfl rfl rfl rfl ?_
                refine ev_loc f_X12_slack (nx := 74) (lo' := [(3, .int y21_4), (5, .int w26), (4, .int y21_4), (2, .int w15), (0, .ref 69), (1, .int ar1)]) rfl rfl rfl rfl ?_
                refine ev_incR f_X12_slack (nx := 77) (c := 1) (l := 2) (u := 61) rfl rfl (by decide) (by decide) l21_4 u25 rfl rfl (by decide) (by decide) rfl (fun z39 e39 l39 u39 => ?_)
                refine ev_jmp f_X12_slack (nx := 43) rfl rfl rfl ?_
                refine ev_sub (lo := [(4, .int z39), (3, .int y21_4), (2, .int w15), (0, .ref 69), (1, .int ar1)]) rfl (t_sc rfl (t_sc rfl (t_sc rfl (t_sc rfl (t_sc rfl t_sn))))) ?_
                exact ih21 _ (by omega) gi26 gl26 gr26 (z39) (y21_4) hI hX  (Int.le_trans (by decide : (1:Int) ≤ 2) l39) u39 (Int.le_trans (by decide : (0:Int) ≤ 1) l21_4) u25 ((hC26.1 69 46 rfl).1.trans c21_0) ((hC26.1 70 1 rfl).1.trans c21_1) ((hC26.1 70 4 rfl).1.trans c21_2) (by
                                                            intro D hm hb hd h46
                                                            have ha : (gi 70 1).toInt = D 1 := hm.1.1.2.1
                                                            obtain ⟨g2, g3, g4, g5, g6⟩ := j21_0 D hm hb hd h46
                                                            have fh := t_F_X hXh
                                                            have hmn : t_ME 0 gi21 D := hm.mv hb (fun j _ _ _ => congrFun (t_F_nc fh rfl (by decide)) (0 + j))
                                                            have k46 : (gi21 69 46).toInt = -1 := by rw [(fh 69 46 (by decide) rfl).1]; exact h46
                                                            have hq := q26 D hmn hb hd k46 (by omega)
                                                            have c1 := t_clamp (i := y21_4) (by omega)
                                                            rw [← c1] at hq
                                                            have hlo := s_sf_lo hb hd (s := ar1.toInt) (l := y21_4.toNatClampNeg) (by omega)
                                                            have hle := s_an_le hlo g6
                                                            have hq2 : w26.toInt = s_an (s_sf D ar1.toInt y21_4.toNatClampNeg) := hq
                                                            rw [← hq2] at hle
                                                            have hy := hle.mp ⟨by omega, by omega⟩
                                                            exact ⟨g2, s_lg_up g3 (by omega) (by omega) (Or.inl ⟨hy, rfl⟩), g4, g5, g6⟩) rfl
        refine ev_sub (lo := [(4, .int 1), (3, .int 0), (2, .int w15), (0, .ref 69), (1, .int ar1)]) rfl (t_sc rfl (t_sc rfl (t_sc rfl (t_sc rfl (t_sc rfl t_sn))))) ?_
        exact L21 _ gi15 gl15 gr15 (1) (0) hI hX  (by decide : (1:Int) ≤ (1:Int32).toInt) (Int.le_trans (by decide : (1:Int32).toInt ≤ (1:Int)) (by decide : (1:Int) ≤ 61)) (by decide : (0:Int) ≤ (0:Int32).toInt) (Int.le_trans (by decide : (0:Int32).toInt ≤ (0:Int)) (by decide : (0:Int) ≤ 60)) ((hC15.1 69 46 rfl).1.trans rfl) ((hC15.1 70 1 rfl).1.trans rfl) ((hC15.1 70 4 rfl).1.trans rfl) (by
                                                            intro D hm hb hd h46
                                                            have ha : (gi 70 1).toInt = D 1 := hm.1.1.2.1
                                                            have hq := q15 D hm hb hd h46
                                                            have h4 : (gi 70 4).toInt = D 4 := hm.1.2.1
                                                            rw [h4] at hq
                                                            have hl0 := s_LS_lo (s_PD_O (q := D 4) hb hd hd.2.2.1.1) 0 0 0 0
                                                            have hlt : s_LS (s_PD D (D 4)) 0 0 0 0 < 1000000000 := by
                                                              by_cases hh : 1000000000 ≤ s_LS (s_PD D (D 4)) 0 0 0 0
                                                              · have hn := (s_an_n hl0).mpr hh; omega
                                                              · exact Int.not_le.mp hh
                                                            rw [s_an_v hlt] at hq
                                                            exact ⟨hq, rfl, by omega, by omega, hlt⟩) rfl
/-! ===== slack: the answers are alike ===== -/
section SLKL
variable {sh : List (Nat ⊕ (Nat × Nat))} {gi g1 g2 : Nat → Nat → Int32} {gl l1 l2 : Nat → Nat → Int64} {gr r1 r2 : Nat → Nat → Value} {w1 : List (Nat × Nat)} {A : Int32} {x1 x2 : Int32}
theorem t_L_slack (hI : t_I sh gi gr) (hD : t_DR sh.length gi gl gr) (f1 : t_F w1 gi gl gr g1 l1 r1) (h70 : t_nc w1 70 = true) (hN1 : (g1 69 46).toInt = -1) (h4 : 1 ≤ (g1 70 4).toInt) (q1 : Q_d_slack gi gl gr A x1 g1 l1 r1) (q2 : Q_e_slack g1 l1 r1 A x2 g2 l2 r2) : x1 = x2 := by
  obtain ⟨u, hu, D, hb, hv, hl, hc, hm⟩ := hD.1
  have r70 : g1 70 = gi 70 := t_F_nc f1 h70 (by decide)
  have hm2 : t_ME 0 g1 D := by unfold t_ME; rw [r70]; exact hm
  have hd : s_DB D := s_DB_of hI hm hb (by rw [← r70]; exact h4)
  have k1 := q1 u D hu hl hc hb hv.1 (t_D_sail hI hb hm) hd
  have k2 := q2 D hm2 hb hd hN1
  apply Int32.toInt_inj.mp
  by_cases hin : 0 ≤ A.toInt ∧ A.toInt < D 1 ∧ s_LS (s_PD D (D 4)) 0 0 0 0 < 1000000000
  · rw [k1.1 hin, k2.1 hin]
  · rw [k1.2 hin, k2.2 hin]
end SLKL
/-! ===== whom to send away ===== -/
/-- how many bits are set, of the lower six -/
noncomputable def s_pc (k : Nat) : Nat := k % 2 + k / 2 % 2 + k / 4 % 2 + k / 8 % 2 + k / 16 % 2 + k / 32 % 2
/-- all can pass, but for a set -/
noncomputable def s_can (D : s_D) (k : Nat) : Prop := s_LS (s_PX D (D 4) (s_A D) (Int32.ofNat k) (-1)) 0 0 0 0 < 1000000000
noncomputable def s_n2 (D : s_D) : Nat := 2 ^ (D 1).toNat
/-- of all sets that will do the one of the fewest, of several the least; -1: none -/
noncomputable def s_AW (D : s_D) (v : Int) : Prop := (v = -1 ∧ ∀ k, k < s_n2 D → ¬ s_can D k) ∨ ∃ b : Nat, v = (b : Int) ∧ b < s_n2 D ∧ s_can D b ∧ ∀ k, k < s_n2 D → s_can D k → s_pc b < s_pc k ∨ (s_pc b = s_pc k ∧ b ≤ k)
/-- none of fewer than i; of i, none ahead of j -/
noncomputable def s_w1 (D : s_D) (i : Int) : Prop := ∀ k, k < s_n2 D → (s_pc k : Int) < i → ¬ s_can D k
noncomputable def s_w2 (D : s_D) (i j : Int) : Prop := ∀ k : Nat, (k : Int) < j → (s_pc k : Int) = i → ¬ s_can D k
/-- the best ahead of j -/
noncomputable def s_wb (D : s_D) (v j : Int) : Prop := (v = -1 ∧ ∀ k : Nat, (k : Int) < j → ¬ s_can D k) ∨ ∃ b : Nat, v = (b : Int) ∧ (b : Int) < j ∧ b < s_n2 D ∧ s_can D b ∧ ∀ k : Nat, (k : Int) < j → s_can D k → s_pc b < s_pc k ∨ (s_pc b = s_pc k ∧ b ≤ k)
section AWY
variable {D : s_D} {v w i j : Int} {x y z : Int32}
theorem s_AW_u (h : s_AW D v) (h2 : s_AW D w) : v = w := by
  rcases h with ⟨e, h⟩ | ⟨b, e, hb, c, h⟩
  · rcases h2 with ⟨e2, _⟩ | ⟨b2, e2, hb2, c2, _⟩
    · rw [e, e2]
    · exact absurd c2 (h b2 hb2)
  · rcases h2 with ⟨e2, h2⟩ | ⟨b2, e2, hb2, c2, h2⟩
    · exact absurd c (h2 b hb)
    · have k1 := h b2 hb2 c2
      have k2 := h2 b hb c
      rw [e, e2]; omega
theorem s_pc_le : ∀ n : Nat, n < 7 → ∀ k : Nat, k < 2 ^ n → s_pc k ≤ n := by decide
theorem s_n2_6 (h : D 1 ≤ 6) : s_n2 D ≤ 64 := by
  unfold s_n2
  exact Nat.pow_le_pow_right (n := 2) (by omega) (show (D 1).toNat ≤ 6 by omega)
theorem s_n2_of {b : Int} (e : b = D 1) (h : (b = 0 ∧ w = 1) ∨ (b = 1 ∧ w = 2) ∨ (b = 2 ∧ w = 4) ∨ (b = 3 ∧ w = 8) ∨ (b = 4 ∧ w = 16) ∨ (b = 5 ∧ w = 32) ∨ (b = 6 ∧ w = 64)) : w = ((s_n2 D : Nat) : Int) := by
  unfold s_n2
  rw [← e]
  rcases h with ⟨h, h2⟩ | ⟨h, h2⟩ | ⟨h, h2⟩ | ⟨h, h2⟩ | ⟨h, h2⟩ | ⟨h, h2⟩ | ⟨h, h2⟩ <;> (rw [h, h2]; rfl)
theorem s_w1_0 : s_w1 D 0 := fun k _ h => absurd h (by omega)
theorem s_w2_0 : s_w2 D i 0 := fun k h => absurd h (by omega)
theorem s_w2_s (h : s_w2 D i y.toInt) (h0 : 0 ≤ y.toInt) (hz : z.toInt = y.toInt + 1) (hn : (s_pc y.toNatClampNeg : Int) = i → ¬ s_can D y.toNatClampNeg) : s_w2 D i z.toInt := by
  intro k hk hp
  have c := t_clamp (i := y) h0
  by_cases e : k = y.toNatClampNeg
  · subst e; exact hn hp
  · exact h k (by omega) hp
theorem s_w1_s (h : s_w1 D i) (h2 : s_w2 D i j) (hj : ((s_n2 D : Nat) : Int) ≤ j) (hz : z.toInt = i + 1) : s_w1 D z.toInt := by
  intro k hk hp
  by_cases e : (s_pc k : Int) = i
  · exact h2 k (by omega) e
  · exact h k hk (by omega)
theorem s_w1_end (h : s_w1 D i) (h6 : 0 ≤ D 1 ∧ D 1 ≤ 6) (hi : D 1 < i) : s_AW D (-1) := by
  refine Or.inl ⟨rfl, fun k hk => h k hk ?_⟩
  have := s_pc_le (D 1).toNat (by omega) k hk
  omega
theorem s_w_yes (h1 : s_w1 D i) (h2 : s_w2 D i y.toInt) (h0 : 0 ≤ y.toInt) (hy : y.toInt < ((s_n2 D : Nat) : Int)) (hp : (s_pc y.toNatClampNeg : Int) = i) (hc : s_can D y.toNatClampNeg) : s_AW D y.toInt := by
  have c := t_clamp (i := y) h0
  refine Or.inr ⟨y.toNatClampNeg, by omega, by omega, hc, fun k hk hck => ?_⟩
  have k1 : ¬ (s_pc k : Int) < i := fun h => h1 k hk h hck
  by_cases e : (s_pc k : Int) = i
  · have k2 : ¬ (k : Int) < y.toInt := fun h => h2 k h e hck
    omega
  · omega
theorem s_wb_0 : s_wb D (-1) 0 := Or.inl ⟨rfl, fun k h => absurd h (by omega)⟩
theorem s_wb_skip (h : s_wb D x.toInt y.toInt) (hx : 0 ≤ x.toInt) (h0 : 0 ≤ y.toInt) (hz : z.toInt = y.toInt + 1) (hp : s_pc x.toNatClampNeg ≤ s_pc y.toNatClampNeg) : s_wb D x.toInt z.toInt := by
  have c := t_clamp (i := y) h0
  have c2 := t_clamp (i := x) hx
  rcases h with ⟨e, _⟩ | ⟨b, e, hj, hb, hc, h⟩
  · omega
  · have eb : x.toNatClampNeg = b := by omega
    rw [eb] at hp
    refine Or.inr ⟨b, e, by omega, hb, hc, fun k hk hck => ?_⟩
    by_cases q : k = y.toNatClampNeg
    · subst q; omega
    · exact h k (by omega) hck
theorem s_wb_no (h : s_wb D v y.toInt) (h0 : 0 ≤ y.toInt) (hz : z.toInt = y.toInt + 1) (hn : ¬ s_can D y.toNatClampNeg) : s_wb D v z.toInt := by
  have c := t_clamp (i := y) h0
  rcases h with ⟨e, h⟩ | ⟨b, e, hj, hb, hc, h⟩
  · refine Or.inl ⟨e, fun k hk => ?_⟩
    by_cases q : k = y.toNatClampNeg
    · rw [q]; exact hn
    · exact h k (by omega)
  · refine Or.inr ⟨b, e, by omega, hb, hc, fun k hk hck => ?_⟩
    by_cases q : k = y.toNatClampNeg
    · rw [q] at hck; exact absurd hck hn
    · exact h k (by omega) hck
theorem s_wb_yes (h : s_wb D x.toInt y.toInt) (h0 : 0 ≤ y.toInt) (hy : y.toInt < ((s_n2 D : Nat) : Int)) (hz : z.toInt = y.toInt + 1) (hb : x.toInt = -1 ∨ s_pc y.toNatClampNeg < s_pc x.toNatClampNeg) (hc : s_can D y.toNatClampNeg) : s_wb D y.toInt z.toInt := by
  have c := t_clamp (i := y) h0
  refine Or.inr ⟨y.toNatClampNeg, by omega, by omega, by omega, hc, fun k hk hck => ?_⟩
  by_cases q : k = y.toNatClampNeg
  · subst q; omega
  · rcases h with ⟨e, h⟩ | ⟨b, e, hj, hb2, hc2, h⟩
    · exact absurd hck (h k (by omega))
    · have k1 := h k (by omega) hck
      rcases hb with hb | hb
      · omega
      · have c2 := t_clamp (i := x) (by omega)
        have eb : x.toNatClampNeg = b := by omega
        rw [eb] at hb
        omega
theorem s_wb_end (h : s_wb D v j) (hj : ((s_n2 D : Nat) : Int) ≤ j) : s_AW D v := by
  rcases h with ⟨e, h⟩ | ⟨b, e, hj2, hb, hc, h⟩
  · exact Or.inl ⟨e, fun k hk => h k (by omega)⟩
  · exact Or.inr ⟨b, e, hb, hc, fun k hk hck => h k (by omega) hck⟩
theorem s_Al_no {A : Nat → Int} {l : Int} : s_Al A (-1) l = A := by
  funext j; unfold s_Al; rw [if_neg (by omega)]; omega
theorem s_can_i (h0 : 0 ≤ y.toInt) : s_can D y.toNatClampNeg = (s_LS (s_PX D (D 4) (s_A D) y (-1)) 0 0 0 0 < 1000000000) := by
  unfold s_can; rw [s_ofc h0]
/-- the class's count of the bits -/
noncomputable def s_us (x y : Int32) : Int32 := (x.toUInt32 >>> (y.toUInt32 &&& Int32.toUInt32 31)).toInt32
noncomputable def s_bc1 (a : Int32) : Int32 := a - (s_us a 1 &&& 1431655765)
noncomputable def s_bc2 (a : Int32) : Int32 := (a &&& 858993459) + (s_us a 2 &&& 858993459)
noncomputable def s_bc3 (a : Int32) : Int32 := (a + s_us a 4) &&& 252645135
noncomputable def s_bc4 (a : Int32) : Int32 := a + s_us a 8
noncomputable def s_bc5 (a : Int32) : Int32 := a + s_us a 16
noncomputable def s_bc (a : Int32) : Int32 := s_bc5 (s_bc4 (s_bc3 (s_bc2 (s_bc1 a)))) &&& 63
theorem s_bc_ok (h0 : 0 ≤ y.toInt) (h1 : y.toInt ≤ 63) : (s_bc y).toInt = ((s_pc y.toNatClampNeg : Nat) : Int) := by
  have c := t_clamp (i := y) h0
  have h : ∀ k : Nat, k < 64 → (s_bc (Int32.ofNat k)).toInt = ((s_pc k : Nat) : Int) := by decide +kernel
  have k := h y.toNatClampNeg (by omega)
  rw [s_ofc h0] at k
  exact k
theorem s_bt_ok {a : Int64} (h : a.toUInt64.toNat < 64) (hz : a ≠ 0) : (a &&& (a - 1)).toUInt64.toNat < 64 ∧ s_pc (a &&& (a - 1)).toUInt64.toNat + 1 = s_pc a.toUInt64.toNat := by
  have hh : ∀ k : Nat, k < 64 → k ≠ 0 → (Int64.ofNat k &&& (Int64.ofNat k - 1)).toUInt64.toNat < 64 ∧ s_pc (Int64.ofNat k &&& (Int64.ofNat k - 1)).toUInt64.toNat + 1 = s_pc k := by decide +kernel
  have e : Int64.ofNat a.toUInt64.toNat = a := by
    apply Int64.toBitVec_inj.mp
    apply BitVec.eq_of_toNat_eq
    show (BitVec.ofNat 64 a.toUInt64.toNat).toNat = a.toBitVec.toNat
    rw [BitVec.toNat_ofNat]
    exact Nat.mod_eq_of_lt a.toBitVec.isLt
  have k := hh a.toUInt64.toNat h (fun h2 => hz (by rw [← e, h2]; rfl))
  rw [e] at k
  exact k
end AWY
/-! rows by hand -/
noncomputable def wl_n_bitCount : List (Nat × Nat) := []
noncomputable def Q_n_bitCount (gi : Nat → Nat → Int32) (gl : Nat → Nat → Int64) (gr : Nat → Nat → Value) (ar0 : Int32) : Int32 → (Nat → Nat → Int32) → (Nat → Nat → Int64) → (Nat → Nat → Value) → Prop := fun (v : Int32) (gi2 : Nat → Nat → Int32) (gl2 : Nat → Nat → Int64) (gr2 : Nat → Nat → Value) => v.toInt = ((s_pc ar0.toNatClampNeg : Nat) : Int)
theorem c_n_bitCount {X : x_Ext} {d : Nat} {sh : List (Nat ⊕ (Nat × Nat))} {gi : Nat → Nat → Int32} {gl : Nat → Nat → Int64} {gr : Nat → Nat → Value} (hI : t_I sh gi gr) (ar0 : Int32) (l_a0 : 0 ≤ ar0.toInt) (u_a0 : ar0.toInt ≤ 63) : x_Me X (d + 1) n_J6_bitCount_0f7a4 [.int ar0] (sh, gi, gl, gr) (t_PI wl_n_bitCount sh gi gl gr 0 6 (Q_n_bitCount gi gl gr ar0)) := by
  have hX : t_X wl_n_bitCount sh gi gl gr gi gl gr := t_X.rf
  refine me_s f_J6_bitCount_0f7a4 rfl rfl ?_
  refine ev_loc f_J6_bitCount_0f7a4 (nx := 1) rfl rfl rfl rfl ?_
  refine ev_loc f_J6_bitCount_0f7a4 (nx := 2) rfl rfl rfl rfl ?_
  refine ev_ic f_J6_bitCount_0f7a4 (nx := 3) (v := 1) rfl (by decide) rfl ?_
  refine ev_anyIE f_J6_bitCount_0f7a4 (nx := 4) rfl rfl rfl rfl (fun z4 e4 => ?_)
  refine ev_ldW f_J6_bitCount_0f7a4 (nx := 7) (v := 1431655765) rfl (by decide) rfl ?_
  refine ev_anyIE f_J6_bitCount_0f7a4 (nx := 8) rfl rfl rfl rfl (fun z8 e8 => ?_)
  refine ev_anyIE f_J6_bitCount_0f7a4 (nx := 9) rfl rfl rfl rfl (fun z9 e9 => ?_)
  have k9 : z9 = s_bc1 ar0 := by rw [e9, e8, e4]; rfl
  refine ev_loc f_J6_bitCount_0f7a4 (nx := 10) (lo' := [(0, .int z9)]) rfl rfl rfl rfl ?_
  refine ev_loc f_J6_bitCount_0f7a4 (nx := 11) rfl rfl rfl rfl ?_
  refine ev_ldW f_J6_bitCount_0f7a4 (nx := 14) (v := 858993459) rfl (by decide) rfl ?_
  refine ev_anyIE f_J6_bitCount_0f7a4 (nx := 15) rfl rfl rfl rfl (fun z15 e15 => ?_)
  refine ev_loc f_J6_bitCount_0f7a4 (nx := 16) rfl rfl rfl rfl ?_
  refine ev_ic f_J6_bitCount_0f7a4 (nx := 17) (v := 2) rfl (by decide) rfl ?_
  refine ev_anyIE f_J6_bitCount_0f7a4 (nx := 18) rfl rfl rfl rfl (fun z18 e18 => ?_)
  refine ev_ldW f_J6_bitCount_0f7a4 (nx := 21) (v := 858993459) rfl (by decide) rfl ?_
  refine ev_anyIE f_J6_bitCount_0f7a4 (nx := 22) rfl rfl rfl rfl (fun z22 e22 => ?_)
  refine ev_anyIE f_J6_bitCount_0f7a4 (nx := 23) rfl rfl rfl rfl (fun z23 e23 => ?_)
  have k23 : z23 = s_bc2 z9 := by rw [e23, e22, e18, e15]; rfl
  refine ev_loc f_J6_bitCount_0f7a4 (nx := 24) (lo' := [(0, .int z23)]) rfl rfl rfl rfl ?_
  refine ev_loc f_J6_bitCount_0f7a4 (nx := 25) rfl rfl rfl rfl ?_
  refine ev_loc f_J6_bitCount_0f7a4 (nx := 26) rfl rfl rfl rfl ?_
  refine ev_ic f_J6_bitCount_0f7a4 (nx := 27) (v := 4) rfl (by decide) rfl ?_
  refine ev_anyIE f_J6_bitCount_0f7a4 (nx := 28) rfl rfl rfl rfl (fun z28 e28 => ?_)
  refine ev_anyIE f_J6_bitCount_0f7a4 (nx := 29) rfl rfl rfl rfl (fun z29 e29 => ?_)
  refine ev_ldW f_J6_bitCount_0f7a4 (nx := 32) (v := 252645135) rfl (by decide) rfl ?_
  refine ev_anyIE f_J6_bitCount_0f7a4 (nx := 33) rfl rfl rfl rfl (fun z33 e33 => ?_)
  have k33 : z33 = s_bc3 z23 := by rw [e33, e29, e28]; rfl
  refine ev_loc f_J6_bitCount_0f7a4 (nx := 34) (lo' := [(0, .int z33)]) rfl rfl rfl rfl ?_
  refine ev_loc f_J6_bitCount_0f7a4 (nx := 35) rfl rfl rfl rfl ?_
  refine ev_loc f_J6_bitCount_0f7a4 (nx := 36) rfl rfl rfl rfl ?_
  refine ev_bp f_J6_bitCount_0f7a4 (nx := 38) (v := 8) rfl (by decide) rfl ?_
  refine ev_anyIE f_J6_bitCount_0f7a4 (nx := 39) rfl rfl rfl rfl (fun z39 e39 => ?_)
  refine ev_anyIE f_J6_bitCount_0f7a4 (nx := 40) rfl rfl rfl rfl (fun z40 e40 => ?_)
  have k40 : z40 = s_bc4 z33 := by rw [e40, e39]; rfl
  refine ev_loc f_J6_bitCount_0f7a4 (nx := 41) (lo' := [(0, .int z40)]) rfl rfl rfl rfl ?_
  refine ev_loc f_J6_bitCount_0f7a4 (nx := 42) rfl rfl rfl rfl ?_
  refine ev_loc f_J6_bitCount_0f7a4 (nx := 43) rfl rfl rfl rfl ?_
  refine ev_bp f_J6_bitCount_0f7a4 (nx := 45) (v := 16) rfl (by decide) rfl ?_
  refine ev_anyIE f_J6_bitCount_0f7a4 (nx := 46) rfl rfl rfl rfl (fun z46 e46 => ?_)
  refine ev_anyIE f_J6_bitCount_0f7a4 (nx := 47) rfl rfl rfl rfl (fun z47 e47 => ?_)
  have k47 : z47 = s_bc5 z40 := by rw [e47, e46]; rfl
  refine ev_loc f_J6_bitCount_0f7a4 (nx := 48) (lo' := [(0, .int z47)]) rfl rfl rfl rfl ?_
  refine ev_loc f_J6_bitCount_0f7a4 (nx := 49) rfl rfl rfl rfl ?_
  refine ev_bp f_J6_bitCount_0f7a4 (nx := 51) (v := 63) rfl (by decide) rfl ?_
  refine ev_anyIE f_J6_bitCount_0f7a4 (nx := 52) rfl rfl rfl rfl (fun z52 e52 => ?_)
  have hv : z52 = s_bc ar0 := by rw [e52, k47, k40, k33, k23, k9]; rfl
  have hk : z52.toInt = ((s_pc ar0.toNatClampNeg : Nat) : Int) := by rw [hv]; exact s_bc_ok l_a0 u_a0
  have h6 : s_pc ar0.toNatClampNeg ≤ 6 := s_pc_le 6 (by decide) _ (by have := t_clamp (i := ar0) (by omega); omega)
  exact ev_ret f_J6_bitCount_0f7a4 rfl rfl rfl ⟨_, _, _, rfl, hI, hX, ⟨z52, rfl, by omega, by omega, hk⟩⟩
noncomputable def wl_n_bits : List (Nat × Nat) := []
noncomputable def Q_n_bits (gi : Nat → Nat → Int32) (gl : Nat → Nat → Int64) (gr : Nat → Nat → Value) (ar0 : Int64) : Int32 → (Nat → Nat → Int32) → (Nat → Nat → Int64) → (Nat → Nat → Value) → Prop := fun (v : Int32) (gi2 : Nat → Nat → Int32) (gl2 : Nat → Nat → Int64) (gr2 : Nat → Nat → Value) => v.toInt = ((s_pc ar0.toUInt64.toNat : Nat) : Int)
theorem c_n_bits {X : x_Ext} {d : Nat} {sh : List (Nat ⊕ (Nat × Nat))} {gi : Nat → Nat → Int32} {gl : Nat → Nat → Int64} {gr : Nat → Nat → Value} (hI : t_I sh gi gr) (ar0 : Int64) (e_p0 : ar0.toUInt64.toNat < 64) : x_Me X (d + 1) n_X12_bits [.long ar0] (sh, gi, gl, gr) (t_PI wl_n_bits sh gi gl gr 0 6 (Q_n_bits gi gl gr ar0)) := by
  have hX : t_X wl_n_bits sh gi gl gr gi gl gr := t_X.rf
  refine me_s f_X12_bits rfl rfl ?_
  refine ev_ic f_X12_bits (nx := 1) (v := 0) rfl (by decide) rfl ?_
  refine ev_loc f_X12_bits (nx := 2) (lo' := [(2, .int 0), (0, .long ar0)]) rfl rfl rfl rfl ?_
  refine ev_loc f_X12_bits (nx := 3) rfl rfl rfl rfl ?_
  refine ev_loc f_X12_bits (nx := 4) (lo' := [(3, .long ar0), (2, .int 0), (0, .long ar0)]) rfl rfl rfl rfl ?_
  have h6 : s_pc ar0.toUInt64.toNat ≤ 6 := s_pc_le 6 (by decide) _ e_p0
  have L1 : ∀ (m1 : Nat) (y1_3 : Int64) (y1_2 : Int32), y1_3.toUInt64.toNat < 64 → y1_2.toInt + ((s_pc y1_3.toUInt64.toNat : Nat) : Int) = ((s_pc ar0.toUInt64.toNat : Nat) : Int) → 0 ≤ y1_2.toInt → y1_3.toUInt64.toNat = m1 → x_Ev X (d + 1) n_X12_bits 4 [(3, .long y1_3), (2, .int y1_2), (0, .long ar0)] [] (sh, gi, gl, gr) (t_PI wl_n_bits sh gi gl gr 0 6 (Q_n_bits gi gl gr ar0)) := by
    intro m1
    induction m1 using Nat.strongRecOn with
    | _ m1 ih1 =>
    intro y1_3 y1_2 k64 kp k0 hm1
    refine ev_loc f_X12_bits (nx := 5) rfl rfl rfl rfl ?_
    refine ev_lc f_X12_bits (nx := 6) (v := 0) rfl (by decide) rfl ?_
    refine ev_anyIE f_X12_bits (nx := 7) rfl rfl rfl rfl (fun z2 e2 => ?_)
    refine ev_if f_X12_bits (t1 := 22) (t2 := 10) rfl rfl rfl (fun h3 => ?_) (fun h3 => ?_)
    · have hz : y1_3 = 0 := (lg_cmp_eq y1_3 0).mp (e2.symm.trans h3)
      rw [hz] at kp
      have kp2 : y1_2.toInt + 0 = ((s_pc ar0.toUInt64.toNat : Nat) : Int) := kp
      refine ev_loc f_X12_bits (nx := 23) rfl rfl rfl rfl ?_
      exact ev_ret f_X12_bits rfl rfl rfl ⟨_, _, _, rfl, hI, hX, ⟨_, rfl, by omega, by omega, (show y1_2.toInt = _ by omega)⟩⟩
    · have hz : y1_3 ≠ 0 := fun h => h3 (by rw [e2, h]; rfl)
      have hb := s_bt_ok k64 hz
      refine ev_incR f_X12_bits (nx := 13) (c := 1) (l := 1) (u := 7) rfl rfl (by decide) (by decide) k0 (show y1_2.toInt ≤ 6 by omega) rfl rfl (by decide) (by decide) rfl (fun z7 e7 l7 u7 => ?_)
      refine ev_loc f_X12_bits (nx := 14) rfl rfl rfl rfl ?_
      refine ev_loc f_X12_bits (nx := 15) rfl rfl rfl rfl ?_
      refine ev_lc f_X12_bits (nx := 16) (v := 1) rfl (by decide) rfl ?_
      refine ev_anyLE f_X12_bits (nx := 17) rfl rfl rfl rfl (fun z8 e8 => ?_)
      refine ev_anyLE f_X12_bits (nx := 18) rfl rfl rfl rfl (fun z9 e9 => ?_)
      refine ev_loc f_X12_bits (nx := 19) (lo' := [(3, .long z9), (2, .int z7), (0, .long ar0)]) rfl rfl rfl rfl ?_
      refine ev_jmp f_X12_bits (nx := 4) rfl rfl rfl ?_
      refine ev_sub (lo := [(3, .long z9), (2, .int z7), (0, .long ar0)]) rfl (t_sc rfl (t_sc rfl (t_sc rfl t_sn))) ?_
      have e : z9 = y1_3 &&& (y1_3 - 1) := by rw [e9, e8]
      rw [← e] at hb
      have hdec := t_bits e2 h3 e8 e9
      exact ih1 _ (by omega) z9 z7 hb.1 (by have := hb.2; omega) (by omega) rfl
  refine ev_sub (lo := [(3, .long ar0), (2, .int 0), (0, .long ar0)]) rfl (t_sc rfl (t_sc rfl (t_sc rfl t_sn))) ?_
  exact L1 _ ar0 0 e_p0 (Int.zero_add _) (by decide) rfl
theorem s_i2l {y : Int32} {w : Int64} (h0 : 0 ≤ y.toInt) (e : w = y.toInt64) : w.toUInt64.toNat = y.toNatClampNeg := by
  have c := t_clamp (i := y) h0
  have h : w.toInt = y.toInt := by rw [e, Int32.toInt_toInt64]
  have h2 : (w.toUInt64.toNat : Int) = w.toInt := by
    have k : w.toInt = (w.toBitVec.toNat : Int) := by
      have := Int64.toInt_toBitVec w
      rw [← this, BitVec.toInt_eq_toNat_of_lt]
      have h3 : 0 ≤ w.toBitVec.toInt := by rw [this]; omega
      have h4 := w.toBitVec.isLt
      rw [BitVec.toInt_eq_toNat_cond] at h3
      split at h3 <;> omega
    rw [k]; rfl
  omega
theorem s_i2l6 {y : Int32} {w : Int64} (h0 : 0 ≤ y.toInt) (h1 : y.toInt ≤ 63) (e : w = y.toInt64) : w.toUInt64.toNat < 64 := by
  have c := t_clamp (i := y) h0
  rw [s_i2l h0 e]; omega
/-! ===== printed by riv.py: whom to send away: the class ===== -/
noncomputable def wl_d_away : List (Nat × Nat) := [(0, 0), (28, 0), (28, 1), (28, 4), (28, 5), (29, 0), (30, 9999), (31, 9999), (32, 9999), (33, 9999), (34, 9999), (35, 0), (36, 9999), (37, 9999), (38, 9999), (39, 9999), (40, 9999)]
noncomputable def Q_d_away (gi : Nat → Nat → Int32) (gl : Nat → Nat → Int64) (gr : Nat → Nat → Value) : Int32 → (Nat → Nat → Int32) → (Nat → Nat → Int64) → (Nat → Nat → Value) → Prop := fun (v : Int32) (gi2 : Nat → Nat → Int32) (gl2 : Nat → Nat → Int64) (gr2 : Nat → Nat → Value) => ∀ (u : Nat) (D : s_D), gr 0 6 = .ref u → t_VL gr u → t_CV gi gl u D → t_Cb D → (u = 3 ∨ 102 ≤ u) → (∀ s : Nat, (s : Int) < D 1 → 0 ≤ D (56 + 5 * s) ∧ D (56 + 5 * s) ≤ 1) → s_DB D → s_AW D v.toInt
theorem c_d_away {X : x_Ext} {d : Nat} {sh : List (Nat ⊕ (Nat × Nat))} {gi : Nat → Nat → Int32} {gl : Nat → Nat → Int64} {gr : Nat → Nat → Value} (hI : t_I sh gi gr) : x_Me X (d + 19) n_X11_away [.ref 0] (sh, gi, gl, gr) (t_PI wl_d_away sh gi gl gr (-1) 63 (Q_d_away gi gl gr)) := by
  have hX : t_X wl_d_away sh gi gl gr gi gl gr := t_X.rf
  refine me_i f_X11_away (hI.wf.s rfl) rfl rfl rfl ?_
  refine ev_loc f_X11_away (nx := 1) rfl rfl rfl rfl ?_
  refine ev_getR f_X11_away (nx := 4) rfl (hI.wf.s rfl) rfl rfl (hI.wf.r rfl) rfl rfl ?_
  refine ev_loc f_X11_away (nx := 5) rfl rfl rfl rfl ?_
  obtain ⟨a1, e1, p1⟩ := hI.2.2.2.1.1
  refine ev_getR f_X11_away (nx := 8) rfl (hI.wf.s rfl) rfl rfl e1 rfl rfl ?_
  refine ev_qN f_X11_away (nx := 11) (r := []) rfl rfl rfl rfl rfl rfl rfl (c_d_takeAll hI (a1) p1) rfl hX rfl (fun gi2 gl2 gr2 hI hX hC2 q2 => ?_)
  have q2 : ∀ D : s_D, t_VL gr a1 → t_CV gi gl a1 D → (a1 = 3 ∨ 102 ≤ a1) → t_Cb D → (∀ s : Nat, (s : Int) < D 1 → 0 ≤ D (56 + 5 * s) ∧ D (56 + 5 * s) ≤ 1) → s_CP (s_PD D (D 4)) gi2 gr2 ∧ gr2 28 0 = .ref a1 ∧ t_CV gi2 gl2 a1 D ∧ (gi2 28 1).toInt = D 4 := q2
  replace p1 := p1.ext hC2.2
  refine ev_ic f_X11_away (nx := 12) (v := 0) rfl (by decide) rfl ?_
  refine ev_loc f_X11_away (nx := 13) (lo' := [(1, .int 0), (0, .ref 0)]) rfl rfl rfl rfl ?_
  have L3 : ∀ (m3 : Nat) (gi3 : Nat → Nat → Int32) (gl3 : Nat → Nat → Int64) (gr3 : Nat → Nat → Value) (y3_1 : Int32), t_I sh gi3 gr3 → t_X wl_d_away sh gi gl gr gi3 gl3 gr3 → t_Rv sh gr3 a1 → 0 ≤ y3_1.toInt → y3_1.toInt ≤ 7 → gr3 0 6 = .ref a1 → (∀ (u : Nat) (D : s_D), gr 0 6 = .ref u → t_VL gr u → t_CV gi gl u D → t_Cb D → (u = 3 ∨ 102 ≤ u) → (∀ s : Nat, (s : Int) < D 1 → 0 ≤ D (56 + 5 * s) ∧ D (56 + 5 * s) ≤ 1) → s_DB D → s_KP D u gi3 gr3 ∧ s_w1 D y3_1.toInt) → (7 - y3_1.toInt).toNat = m3 → x_Ev X (d + 19) n_X11_away 13 [(1, .int y3_1), (0, .ref 0)] [] (sh, gi3, gl3, gr3) (t_PI wl_d_away sh gi gl gr (-1) 63 (Q_d_away gi gl gr)) := by
    intro m3
    induction m3 using Nat.strongRecOn with
    | _ m3 ih3 =>
    intro gi3 gl3 gr3 y3_1 hI hX p1 l3_1 u3_1 c3_0 j3_0 hm3
    refine ev_loc f_X11_away (nx := 14) rfl rfl rfl rfl ?_
    have hXh := hX
    refine ev_loc f_X11_away (nx := 15) rfl rfl rfl rfl ?_
    refine ev_getR f_X11_away (nx := 18) (v := .ref a1) rfl (hI.wf.s rfl) rfl rfl c3_0 rfl rfl ?_
    obtain ⟨a4, e4, p4⟩ := p1.2.2.2.2.1
    refine ev_getR f_X11_away (nx := 21) rfl p1.1 rfl rfl e4 rfl rfl ?_
    refine ev_getI f_X11_away (nx := 24) rfl p4.1 rfl rfl rfl ?_
    obtain ⟨l5, u5⟩ := hI.b p4.1 (t_bdK rfl : t_bd 3 0 = some (0, 6))
    refine ev_if f_X11_away (t1 := 95) (t2 := 27) rfl rfl rfl (fun h6 => ?_) (fun h6 => ?_)
    · have r7 : (gi3 a4 0).toInt < y3_1.toInt := Int32.lt_iff_toInt_lt.mp h6
      have l8 : 1 ≤ y3_1.toInt := t_ltl h6 l5 rfl
      refine ev_loc f_X11_away (nx := 96) rfl rfl rfl rfl ?_
      refine ev_bp f_X11_away (nx := 98) (v := 6) rfl (by decide) rfl ?_
      refine ev_inV2 f_X11_away (nx := 101) (lo2 := [(0, .ref 0), (1, .int 6)]) rfl rfl rfl rfl f_X11_refuse (hI.wf.s rfl) rfl rfl rfl rfl rfl ?_
      refine ev_loc f_X11_refuse (nx := 1) rfl rfl rfl rfl ?_
      refine ev_loc f_X11_refuse (nx := 2) rfl rfl rfl rfl ?_
      refine ev_putIT f_X11_refuse (nx := 5) rfl (hI.wf.s rfl) rfl rfl rfl (hI.put0 (hI.wf.s rfl) rfl rfl) (hX.upI rfl) (fun g9 e9 hI hX => ?_)
      refine ev_ic f_X11_refuse (nx := 6) (v := -1) rfl (by decide) rfl ?_
      refine ev_retK1 f_X11_refuse rfl rfl rfl ?_
      exact ev_ret f_X11_away rfl rfl rfl ⟨_, _, _, rfl, hI, hX, ⟨_, rfl, (by decide : ((-1):Int) ≤ ((-1):Int32).toInt), (Int.le_trans (by decide : ((-1):Int32).toInt ≤ ((-1):Int)) (by decide : ((-1):Int) ≤ 63)), (show ∀ (u : Nat) (D : s_D), gr 0 6 = .ref u → t_VL gr u → t_CV gi gl u D → t_Cb D → (u = 3 ∨ 102 ≤ u) → (∀ s : Nat, (s : Int) < D 1 → 0 ≤ D (56 + 5 * s) ∧ D (56 + 5 * s) ≤ 1) → s_DB D → s_AW D ((-1) : Int) from (by
                                                            intro u D hu hl hc hb hv hsl hd
                                                            obtain ⟨g1, g2⟩ := j3_0 u D hu hl hc hb hv hsl hd
                                                            have hun : gr3 0 6 = .ref u := ((t_F_X hXh) 0 6 (by decide) rfl).2.2.trans hu
                                                            have hKh := t_nd_fr hXh rfl
                                                            have hlh := hl.fr (fun K k1 k2 => hKh K (by omega))
                                                            have hch := hc.fr (fun K k1 k2 => hKh K (by omega))
                                                            have ha : a1 = u := Value.ref.inj ((c3_0).symm.trans hun)
                                                            subst ha
                                                            have hb7 : a4 = (a1 + 3) := (Value.ref.inj ((hlh.1.2.2.2.1).symm.trans e4)).symm
                                                            subst hb7
                                                            have hL := hch.2.2.1.1
                                                            exact s_w1_end g2 (by have := hb.2.1; omega) (by omega)))⟩⟩
    · have r10 : y3_1.toInt ≤ (gi3 a4 0).toInt := Int32.le_iff_toInt_le.mp (t_nlt h6)
      have u11 : y3_1.toInt ≤ 6 := t_leu (t_nlt h6) u5
      refine ev_ic f_X11_away (nx := 28) (v := 0) rfl (by decide) rfl ?_
      refine ev_loc f_X11_away (nx := 29) (lo' := [(2, .int 0), (1, .int y3_1), (0, .ref 0)]) rfl rfl rfl rfl ?_
      have L12 : ∀ (m12 : Nat) (gi12 : Nat → Nat → Int32) (gl12 : Nat → Nat → Int64) (gr12 : Nat → Nat → Value) (y12_2 : Int32), t_I sh gi12 gr12 → t_X wl_d_away sh gi gl gr gi12 gl12 gr12 → t_Rv sh gr12 a1 → t_Ln sh gr12 a4 → 0 ≤ y12_2.toInt → y12_2.toInt ≤ 64 → gr12 a1 7 = .ref a4 → gr12 0 6 = .ref a1 → (∀ (u : Nat) (D : s_D), gr 0 6 = .ref u → t_VL gr u → t_CV gi gl u D → t_Cb D → (u = 3 ∨ 102 ≤ u) → (∀ s : Nat, (s : Int) < D 1 → 0 ≤ D (56 + 5 * s) ∧ D (56 + 5 * s) ≤ 1) → s_DB D → s_KP D u gi12 gr12 ∧ s_w1 D y3_1.toInt ∧ s_w2 D y3_1.toInt y12_2.toInt) → (64 - y12_2.toInt).toNat = m12 → x_Ev X (d + 19) n_X11_away 29 [(2, .int y12_2), (1, .int y3_1), (0, .ref 0)] [] (sh, gi12, gl12, gr12) (t_PI wl_d_away sh gi gl gr (-1) 63 (Q_d_away gi gl gr)) := by
        intro m12
        induction m12 using Nat.strongRecOn with
        | _ m12 ih12 =>
        intro gi12 gl12 gr12 y12_2 hI hX p1 p4 l12_2 u12_2 c12_0 c12_1 j12_0 hm12
        refine ev_loc f_X11_away (nx := 30) rfl rfl rfl rfl ?_
        have hXk := hX
        refine ev_ic f_X11_away (nx := 31) (v := 1) rfl (by decide) rfl ?_
        refine ev_loc f_X11_away (nx := 32) rfl rfl rfl rfl ?_
        refine ev_getR f_X11_away (nx := 35) (v := .ref a1) rfl (hI.wf.s rfl) rfl rfl c12_1 rfl rfl ?_
        refine ev_getR f_X11_away (nx := 38) (v := .ref a4) rfl p1.1 rfl rfl c12_0 rfl rfl ?_
        refine ev_getI f_X11_away (nx := 41) rfl p4.1 rfl rfl rfl ?_
        obtain ⟨l13, u13⟩ := hI.b p4.1 (t_bdK rfl : t_bd 3 0 = some (0, 6))
        refine ev_shl1E f_X11_away (nx := 42) rfl l13 u13 (by decide) (by decide) rfl (fun z14 s14 => ?_)
        have l14 : 1 ≤ z14.toInt := by have := l13; have := u13; omega
        have u14 : z14.toInt ≤ 64 := by have := l13; have := u13; omega
        refine ev_if f_X11_away (t1 := 89) (t2 := 45) rfl rfl rfl (fun h15 => ?_) (fun h15 => ?_)
        · have r16 : z14.toInt ≤ y12_2.toInt := Int32.le_iff_toInt_le.mp h15
          have l17 : 1 ≤ y12_2.toInt := t_lel h15 l14
          refine ev_incR f_X11_away (nx := 92) (c := 1) (l := 1) (u := 7) rfl rfl (by decide) (by decide) l3_1 u11 rfl rfl (by decide) (by decide) rfl (fun z18 e18 l18 u18 => ?_)
          refine ev_jmp f_X11_away (nx := 13) rfl rfl rfl ?_
          refine ev_sub (lo := [(1, .int z18), (0, .ref 0)]) rfl (t_sc rfl (t_sc rfl t_sn)) ?_
          exact ih3 _ (by omega) gi12 gl12 gr12 (z18) hI hX p1 (Int.le_trans (by decide : (0:Int) ≤ 1) l18) u18 c12_1 (by
                                                            intro u D hu hl hc hb hv hsl hd
                                                            obtain ⟨g1, g2, g3⟩ := j12_0 u D hu hl hc hb hv hsl hd
                                                            have hun : gr12 0 6 = .ref u := ((t_F_X hXk) 0 6 (by decide) rfl).2.2.trans hu
                                                            have hKh := t_nd_fr hXk rfl
                                                            have hlh := hl.fr (fun K k1 k2 => hKh K (by omega))
                                                            have hch := hc.fr (fun K k1 k2 => hKh K (by omega))
                                                            have ha : a1 = u := Value.ref.inj ((c12_1).symm.trans hun)
                                                            subst ha
                                                            have hb7 : a4 = (a1 + 3) := (Value.ref.inj ((hlh.1.2.2.2.1).symm.trans c12_0)).symm
                                                            subst hb7
                                                            have hL := hch.2.2.1.1
                                                            have hn := s_n2_of (D := D) (by omega) s14
                                                            exact ⟨g1, s_w1_s g2 g3 (by omega) (by omega)⟩) rfl
        · have r19 : y12_2.toInt < z14.toInt := Int32.lt_iff_toInt_lt.mp (t_nle h15)
          have u20 : y12_2.toInt ≤ 63 := t_ltu (t_nle h15) u14 rfl
          refine ev_loc f_X11_away (nx := 46) rfl rfl rfl rfl ?_
          refine ev_qI0 f_X11_away (nx := 49) (r := []) rfl rfl rfl rfl rfl rfl rfl (c_n_bitCount hI (y12_2) l12_2 u20) rfl (fun w21 l21 u21 q21 => ?_)
          have q21 : w21.toInt = ((s_pc y12_2.toNatClampNeg : Nat) : Int) := q21
          refine ev_loc f_X11_away (nx := 50) rfl rfl rfl rfl ?_
          refine ev_if f_X11_away (t1 := 53) (t2 := 83) rfl rfl rfl (fun h22 => ?_) (fun h22 => ?_)
          · have r23 : w21.toInt = y3_1.toInt := t_eqi h22
            refine ev_loc f_X11_away (nx := 54) rfl rfl rfl rfl ?_
            refine ev_getR f_X11_away (nx := 57) rfl (hI.wf.s rfl) rfl rfl (hI.wf.r rfl) rfl rfl ?_
            refine ev_loc f_X11_away (nx := 58) rfl rfl rfl rfl ?_
            refine ev_getR f_X11_away (nx := 61) (v := .ref a1) rfl (hI.wf.s rfl) rfl rfl c12_1 rfl rfl ?_
            refine ev_loc f_X11_away (nx := 62) rfl rfl rfl rfl ?_
            refine ev_ic f_X11_away (nx := 63) (v := -1) rfl (by decide) rfl ?_
            refine ev_ic f_X11_away (nx := 64) (v := 0) rfl (by decide) rfl ?_
            refine ev_qN f_X11_away (nx := 67) (r := []) rfl rfl rfl rfl rfl rfl rfl (c_d_takeShipsG hI (a1) p1 (y12_2) ((-1)) (0) (by decide : (0:Int) ≤ (0:Int32).toInt) (Int.le_trans (by decide : (0:Int32).toInt ≤ (0:Int)) (by decide : (0:Int) ≤ 500))) rfl hX rfl (fun gi24 gl24 gr24 hI hX hC24 q24 => ?_)
            have q24 : ∀ D : s_D, t_VL gr12 a1 → t_CV gi12 gl12 a1 D → (a1 = 3 ∨ 102 ≤ a1) → t_Cb D → s_DB D → (∀ s : Nat, (s : Int) < D 1 → 0 ≤ D (56 + 5 * s) ∧ D (56 + 5 * s) ≤ 1) → (gi24 29 0).toInt = ((s_fn (s_mk y12_2) (D 1).toNat : Nat) : Int) ∧ s_RF (s_ff (s_Al (s_A D) ((-1) : Int) (0 : Int)) (s_mk y12_2) (D 1).toNat) (fun k => (k : Int)) (gi24 30) (s_fn (s_mk y12_2) (D 1).toNat) ∧ s_RF (s_ff (s_Al (s_A D) ((-1) : Int) (0 : Int)) (s_mk y12_2) (D 1).toNat) (s_Al (s_A D) ((-1) : Int) (0 : Int)) (gi24 31) (s_fn (s_mk y12_2) (D 1).toNat) ∧ s_RF (s_ff (s_Al (s_A D) ((-1) : Int) (0 : Int)) (s_mk y12_2) (D 1).toNat) (fun k => D (54 + 5 * k)) (gi24 32) (s_fn (s_mk y12_2) (D 1).toNat) ∧ s_RF (s_ff (s_Al (s_A D) ((-1) : Int) (0 : Int)) (s_mk y12_2) (D 1).toNat) (fun k => D (55 + 5 * k)) (gi24 33) (s_fn (s_mk y12_2) (D 1).toNat) ∧ s_RF (s_ff (s_Al (s_A D) ((-1) : Int) (0 : Int)) (s_mk y12_2) (D 1).toNat) (fun k => D (56 + 5 * k)) (gi24 34) (s_fn (s_mk y12_2) (D 1).toNat) := q24
            replace p4 := p4.ext hC24.2
            replace p1 := p1.ext hC24.2
            refine ev_loc f_X11_away (nx := 68) rfl rfl rfl rfl ?_
            have hXi := hX
            refine ev_getR f_X11_away (nx := 71) rfl (hI.wf.s rfl) rfl rfl (hI.wf.r rfl) rfl rfl ?_
            refine ev_inV1 f_X11_away (nx := 74) (lo2 := [(0, .ref 28)]) rfl rfl rfl rfl f_X1_allCanPass (hI.wf.s rfl) rfl rfl rfl rfl rfl ?_
            refine ev_loc f_X1_allCanPass (nx := 1) rfl rfl rfl rfl ?_
            refine ev_ic f_X1_allCanPass (nx := 2) (v := 0) rfl (by decide) rfl ?_
            refine ev_ic f_X1_allCanPass (nx := 3) (v := 0) rfl (by decide) rfl ?_
            refine ev_ic f_X1_allCanPass (nx := 4) (v := 0) rfl (by decide) rfl ?_
            refine ev_ic f_X1_allCanPass (nx := 5) (v := 0) rfl (by decide) rfl ?_
            refine ev_ldI f_X1_allCanPass (nx := 7) (v := 999999999) rfl (by decide) rfl ?_
            refine ev_qI f_X1_allCanPass (nx := 10) (r := []) rfl rfl rfl rfl rfl rfl rfl (c_d_canEndWithin hI (0) (0) (by decide : (0:Int) ≤ (0:Int32).toInt) (Int.le_trans (by decide : (0:Int32).toInt ≤ (0:Int)) (by decide : (0:Int) ≤ 1)) (0) (by decide : (0:Int) ≤ (0:Int32).toInt) (Int.le_trans (by decide : (0:Int32).toInt ≤ (0:Int)) (by decide : (0:Int) ≤ 6)) (0) (by decide : (0:Int) ≤ (0:Int32).toInt) (Int.le_trans (by decide : (0:Int32).toInt ≤ (0:Int)) (by decide : (0:Int) ≤ 6)) (999999999)) rfl hX rfl (fun w25 gi25 gl25 gr25 l25 u25 hI hX hC25 q25 => ?_)
            have q25 : ∀ P : Nat → Nat → Int, s_CP P gi24 gr24 → s_PB P → s_PO P → 0 ≤ (0 : Int) → (0 : Int) ≤ 2000 → (0 : Int) ≤ P 0 0 → (0 : Int) ≤ P 0 1 → 0 ≤ (999999999 : Int) → (999999999 : Int) ≤ 999999999 → (w25.toInt = 1 ↔ s_LS P (0 : Int) (0 : Int32).toNatClampNeg (0 : Int32).toNatClampNeg (0 : Int32).toNatClampNeg ≤ (999999999 : Int)) := q25
            replace p4 := p4.ext hC25.2
            replace p1 := p1.ext hC25.2
            refine ev_retK1 f_X1_allCanPass rfl rfl (t_rz l25 u25) ?_
            refine ev_if f_X11_away (t1 := 83) (t2 := 77) rfl rfl rfl (fun h26 => ?_) (fun h26 => ?_)
            · have u27 : w25.toInt ≤ 0 := t_equ h26 (by decide : (0:Int32).toInt ≤ (0:Int))
              refine ev_incR f_X11_away (nx := 86) (c := 1) (l := 1) (u := 64) rfl rfl (by decide) (by decide) l12_2 u20 rfl rfl (by decide) (by decide) rfl (fun z28 e28 l28 u28 => ?_)
              refine ev_jmp f_X11_away (nx := 29) rfl rfl rfl ?_
              refine ev_sub (lo := [(2, .int z28), (1, .int y3_1), (0, .ref 0)]) rfl (t_sc rfl (t_sc rfl (t_sc rfl t_sn))) ?_
              exact ih12 _ (by omega) gi25 gl25 gr25 (z28) hI hX p1 p4 (Int.le_trans (by decide : (0:Int) ≤ 1) l28) u28 ((hC25.1 a1 7 (t_ninO hI.wf p1.1 (t_outO hI.wf p1.1 rfl) rfl)).2.2.trans ((hC24.1 a1 7 (t_ninO hI.wf p1.1 (t_outO hI.wf p1.1 rfl) rfl)).2.2.trans c12_0)) ((hC25.1 0 6 rfl).2.2.trans ((hC24.1 0 6 rfl).2.2.trans c12_1)) (by
                                                            intro u D hu hl hc hb hv hsl hd
                                                            obtain ⟨g1, g2, g3⟩ := j12_0 u D hu hl hc hb hv hsl hd
                                                            have hun : gr12 0 6 = .ref u := ((t_F_X hXk) 0 6 (by decide) rfl).2.2.trans hu
                                                            have hKh := t_nd_fr hXk rfl
                                                            have hlh := hl.fr (fun K k1 k2 => hKh K (by omega))
                                                            have hch := hc.fr (fun K k1 k2 => hKh K (by omega))
                                                            have ha : a1 = u := Value.ref.inj ((c12_1).symm.trans hun)
                                                            subst ha
                                                            have hb7 : a4 = (a1 + 3) := (Value.ref.inj ((hlh.1.2.2.2.1).symm.trans c12_0)).symm
                                                            subst hb7
                                                            have hL := hch.2.2.1.1
                                                            have hs := q24 D hlh hch hv hb hd hsl
                                                            have hKi := t_nd_fr hXi rfl
                                                            have hci := hc.fr (fun K k1 k2 => hKi K (by omega))
                                                            have hAb := s_A_b hd
                                                            have hcp := (g1.fr hC24 rfl).cp hv hci hs.1 hs.2.2.1 hs.2.2.2.1 hs.2.2.2.2.1 hs.2.2.2.2.2
                                                            rw [show s_Al (s_A D) _ _ = s_A D from s_Al_no] at hcp
                                                            have hPO := s_PX_O (q := D 4) (m := y12_2) (x := -1) hb hd hd.2.2.1.1 hAb.1
                                                            have hPB := s_PX_B (q := D 4) (m := y12_2) (x := -1) hb hd ⟨hd.2.2.1.1, hd.2.2.1.2⟩ hAb.2
                                                            have hcw : w25.toInt = 1 ↔ s_LS (s_PX D (D 4) (s_A D) y12_2 (-1)) 0 0 0 0 ≤ 999999999 := q25 _ hcp hPB hPO (by decide) (by decide) hPB.1.1 hPB.1.2.2.1 (by decide) (by decide)
                                                            have hno : ¬ s_can D y12_2.toNatClampNeg := fun hh => by
                                                              rw [s_can_i (by omega)] at hh
                                                              have h9 := hcw.mpr (by omega); omega
                                                            exact ⟨(g1.fr hC24 rfl).fr hC25 rfl, g2, s_w2_s g3 (by omega) (by omega) (fun _ => hno)⟩) rfl
            · have r29 : w25.toInt ≠ 0 := fun e => h26 (Int32.toInt_inj.mp (e.trans (by decide : (0:Int) = (0 : Int32).toInt)))
              have l30 : 1 ≤ w25.toInt := t_nel h26 l25 rfl rfl
              refine ev_loc f_X11_away (nx := 78) rfl rfl rfl rfl ?_
              refine ev_loc f_X11_away (nx := 79) rfl rfl rfl rfl ?_
              refine ev_inV2 f_X11_away (nx := 82) (lo2 := [(0, .ref 0), (1, .int y12_2)]) rfl rfl rfl rfl f_X11_answer (hI.wf.s rfl) rfl rfl rfl rfl rfl ?_
              refine ev_loc f_X11_answer (nx := 1) rfl rfl rfl rfl ?_
              refine ev_ic f_X11_answer (nx := 2) (v := 0) rfl (by decide) rfl ?_
              refine ev_putIT f_X11_answer (nx := 5) rfl (hI.wf.s rfl) rfl rfl rfl (hI.put0 (hI.wf.s rfl) rfl rfl) (hX.upI rfl) (fun g31 e31 hI hX => ?_)
              refine ev_loc f_X11_answer (nx := 6) rfl rfl rfl rfl ?_
              refine ev_retK1 f_X11_answer rfl rfl rfl ?_
              exact ev_ret f_X11_away rfl rfl rfl ⟨_, _, _, rfl, hI, hX, ⟨_, rfl, (Int.le_trans (by decide : ((-1):Int) ≤ 0) l12_2), u20, (show ∀ (u : Nat) (D : s_D), gr 0 6 = .ref u → t_VL gr u → t_CV gi gl u D → t_Cb D → (u = 3 ∨ 102 ≤ u) → (∀ s : Nat, (s : Int) < D 1 → 0 ≤ D (56 + 5 * s) ∧ D (56 + 5 * s) ≤ 1) → s_DB D → s_AW D y12_2.toInt from (by
                                                            intro u D hu hl hc hb hv hsl hd
                                                            obtain ⟨g1, g2, g3⟩ := j12_0 u D hu hl hc hb hv hsl hd
                                                            have hun : gr12 0 6 = .ref u := ((t_F_X hXk) 0 6 (by decide) rfl).2.2.trans hu
                                                            have hKh := t_nd_fr hXk rfl
                                                            have hlh := hl.fr (fun K k1 k2 => hKh K (by omega))
                                                            have hch := hc.fr (fun K k1 k2 => hKh K (by omega))
                                                            have ha : a1 = u := Value.ref.inj ((c12_1).symm.trans hun)
                                                            subst ha
                                                            have hb7 : a4 = (a1 + 3) := (Value.ref.inj ((hlh.1.2.2.2.1).symm.trans c12_0)).symm
                                                            subst hb7
                                                            have hL := hch.2.2.1.1
                                                            have hs := q24 D hlh hch hv hb hd hsl
                                                            have hKi := t_nd_fr hXi rfl
                                                            have hci := hc.fr (fun K k1 k2 => hKi K (by omega))
                                                            have hAb := s_A_b hd
                                                            have hcp := (g1.fr hC24 rfl).cp hv hci hs.1 hs.2.2.1 hs.2.2.2.1 hs.2.2.2.2.1 hs.2.2.2.2.2
                                                            rw [show s_Al (s_A D) _ _ = s_A D from s_Al_no] at hcp
                                                            have hPO := s_PX_O (q := D 4) (m := y12_2) (x := -1) hb hd hd.2.2.1.1 hAb.1
                                                            have hPB := s_PX_B (q := D 4) (m := y12_2) (x := -1) hb hd ⟨hd.2.2.1.1, hd.2.2.1.2⟩ hAb.2
                                                            have hcw : w25.toInt = 1 ↔ s_LS (s_PX D (D 4) (s_A D) y12_2 (-1)) 0 0 0 0 ≤ 999999999 := q25 _ hcp hPB hPO (by decide) (by decide) hPB.1.1 hPB.1.2.2.1 (by decide) (by decide)
                                                            have hn := s_n2_of (D := D) (by omega) s14
                                                            have hyes : s_can D y12_2.toNatClampNeg := by
                                                              rw [s_can_i (by omega)]
                                                              have h9 := hcw.mp (by omega); omega
                                                            exact s_w_yes g2 g3 (by omega) (by omega) (by omega) hyes))⟩⟩
          · have r32 : w21.toInt ≠ y3_1.toInt := t_nei h22
            refine ev_incR f_X11_away (nx := 86) (c := 1) (l := 1) (u := 64) rfl rfl (by decide) (by decide) l12_2 u20 rfl rfl (by decide) (by decide) rfl (fun z33 e33 l33 u33 => ?_)
            refine ev_jmp f_X11_away (nx := 29) rfl rfl rfl ?_
            refine ev_sub (lo := [(2, .int z33), (1, .int y3_1), (0, .ref 0)]) rfl (t_sc rfl (t_sc rfl (t_sc rfl t_sn))) ?_
            exact ih12 _ (by omega) gi12 gl12 gr12 (z33) hI hX p1 p4 (Int.le_trans (by decide : (0:Int) ≤ 1) l33) u33 c12_0 c12_1 (by
                                                            intro u D hu hl hc hb hv hsl hd
                                                            obtain ⟨g1, g2, g3⟩ := j12_0 u D hu hl hc hb hv hsl hd
                                                            exact ⟨g1, g2, s_w2_s g3 (by omega) (by omega) (fun hp => absurd hp (by omega))⟩) rfl
      refine ev_sub (lo := [(2, .int 0), (1, .int y3_1), (0, .ref 0)]) rfl (t_sc rfl (t_sc rfl (t_sc rfl t_sn))) ?_
      exact L12 _ gi3 gl3 gr3 (0) hI hX p1 p4 (by decide : (0:Int) ≤ (0:Int32).toInt) (Int.le_trans (by decide : (0:Int32).toInt ≤ (0:Int)) (by decide : (0:Int) ≤ 64)) e4 c3_0 (by
                                                            intro u D hu hl hc hb hv hsl hd
                                                            obtain ⟨g1, g2⟩ := j3_0 u D hu hl hc hb hv hsl hd
                                                            exact ⟨g1, g2, s_w2_0⟩) rfl
  refine ev_sub (lo := [(1, .int 0), (0, .ref 0)]) rfl (t_sc rfl (t_sc rfl t_sn)) ?_
  exact L3 _ gi2 gl2 gr2 (0) hI hX p1 (by decide : (0:Int) ≤ (0:Int32).toInt) (Int.le_trans (by decide : (0:Int32).toInt ≤ (0:Int)) (by decide : (0:Int) ≤ 7)) ((hC2.1 0 6 rfl).2.2.trans e1) (by
                                                            intro u D hu hl hc hb hv hsl hd
                                                            have ha : a1 = u := Value.ref.inj (e1.symm.trans hu)
                                                            subst ha
                                                            have hq := q2 D hl hc hv hb hsl
                                                            exact ⟨s_KP_of hq.1 hq.2.1 hq.2.2.2, s_w1_0⟩) rfl
/-! ===== printed by riv.py: whom to send away: the other side ===== -/
noncomputable def wl_e_away : List (Nat × Nat) := [(69, 2), (69, 44), (69, 45), (69, 48), (89, 10005), (89, 610011), (90, 9999), (91, 9999), (92, 9999)]
noncomputable def Q_e_away (gi : Nat → Nat → Int32) (gl : Nat → Nat → Int64) (gr : Nat → Nat → Value) : Int32 → (Nat → Nat → Int32) → (Nat → Nat → Int64) → (Nat → Nat → Value) → Prop := fun (v : Int32) (gi2 : Nat → Nat → Int32) (gl2 : Nat → Nat → Int64) (gr2 : Nat → Nat → Value) => ∀ D : s_D, t_ME 0 gi D → t_Cb D → s_DB D → (gi 69 46).toInt = -1 → s_AW D v.toInt
theorem c_e_away {X : x_Ext} {d : Nat} {sh : List (Nat ⊕ (Nat × Nat))} {gi : Nat → Nat → Int32} {gl : Nat → Nat → Int64} {gr : Nat → Nat → Value} (hI : t_I sh gi gr) (e_p0 : 1 ≤ (gi 70 4).toInt) : x_Me X (d + 6) n_X12_away [.ref 69] (sh, gi, gl, gr) (t_PI wl_e_away sh gi gl gr (-1) 63 (Q_e_away gi gl gr)) := by
  have hX : t_X wl_e_away sh gi gl gr gi gl gr := t_X.rf
  refine me_i f_X12_away (hI.wf.s rfl) rfl rfl rfl ?_
  obtain ⟨l2, u2⟩ := hI.ab (by decide +kernel : t_abr 70 4 4 0 20 = true) (Nat.le_refl _) (Nat.le_refl _)
  refine ev_ic f_X12_away (nx := 1) (v := -1) rfl (by decide) rfl ?_
  refine ev_loc f_X12_away (nx := 2) (lo' := [(1, .int (-1)), (0, .ref 69)]) rfl rfl rfl rfl ?_
  refine ev_ic f_X12_away (nx := 3) (v := 0) rfl (by decide) rfl ?_
  refine ev_loc f_X12_away (nx := 4) (lo' := [(2, .int 0), (1, .int (-1)), (0, .ref 69)]) rfl rfl rfl rfl ?_
  have L3 : ∀ (m3 : Nat) (gi3 : Nat → Nat → Int32) (gl3 : Nat → Nat → Int64) (gr3 : Nat → Nat → Value) (y3_2 : Int32) (y3_1 : Int32), t_I sh gi3 gr3 → t_X wl_e_away sh gi gl gr gi3 gl3 gr3 → 0 ≤ y3_2.toInt → y3_2.toInt ≤ 64 → (-1) ≤ y3_1.toInt → y3_1.toInt ≤ 63 → gi3 69 46 = (gi 69 46) → gi3 70 4 = (gi 70 4) → (∀ D : s_D, t_ME 0 gi D → t_Cb D → s_DB D → (gi 69 46).toInt = -1 → s_wb D y3_1.toInt y3_2.toInt) → (64 - y3_2.toInt).toNat = m3 → x_Ev X (d + 6) n_X12_away 4 [(2, .int y3_2), (1, .int y3_1), (0, .ref 69)] [] (sh, gi3, gl3, gr3) (t_PI wl_e_away sh gi gl gr (-1) 63 (Q_e_away gi gl gr)) := by
    intro m3
    induction m3 using Nat.strongRecOn with
    | _ m3 ih3 =>
    intro gi3 gl3 gr3 y3_2 y3_1 hI hX l3_2 u3_2 l3_1 u3_1 c3_0 c3_1 j3_0 hm3
    refine ev_loc f_X12_away (nx := 5) rfl rfl rfl rfl ?_
    have hXh := hX
    refine ev_ic f_X12_away (nx := 6) (v := 1) rfl (by decide) rfl ?_
    refine ev_loc f_X12_away (nx := 7) rfl rfl rfl rfl ?_
    refine ev_getR f_X12_away (nx := 10) rfl (hI.wf.s rfl) rfl rfl (hI.wf.r rfl) rfl rfl ?_
    refine ev_ic f_X12_away (nx := 11) (v := 1) rfl (by decide) rfl ?_
    obtain ⟨l4, u4⟩ := hI.ab (by decide +kernel : t_abr 70 1 1 0 6 = true) (Nat.le_refl _) (Nat.le_refl _)
    refine ev_ialdv f_X12_away (nx := 12) (w := (gi3 70 1)) rfl (hI.wf.s rfl) (by decide) (rfl : (1 : Int32).toNatClampNeg = 1) (by decide) rfl rfl ?_
    refine ev_shl1E f_X12_away (nx := 13) rfl l4 u4 (by decide) (by decide) rfl (fun z5 s5 => ?_)
    have l5 : 1 ≤ z5.toInt := by have := l4; have := u4; omega
    have u5 : z5.toInt ≤ 64 := by have := l4; have := u4; omega
    refine ev_if f_X12_away (t1 := 57) (t2 := 16) rfl rfl rfl (fun h6 => ?_) (fun h6 => ?_)
    · have r7 : z5.toInt ≤ y3_2.toInt := Int32.le_iff_toInt_le.mp h6
      have l8 : 1 ≤ y3_2.toInt := t_lel h6 l5
      refine ev_loc f_X12_away (nx := 58) rfl rfl rfl rfl ?_
      refine ev_loc f_X12_away (nx := 59) rfl rfl rfl rfl ?_
      refine ev_inV2 f_X12_away (nx := 62) (lo2 := [(0, .ref 69), (1, .int y3_1)]) rfl rfl rfl rfl f_X12_orNone (hI.wf.s rfl) rfl rfl rfl rfl rfl ?_
      refine ev_loc f_X12_orNone (nx := 1) rfl rfl rfl rfl ?_
      refine ev_ic f_X12_orNone (nx := 2) (v := -1) rfl (by decide) rfl ?_
      refine ev_if f_X12_orNone (t1 := 5) (t2 := 14) rfl rfl rfl (fun h9 => ?_) (fun h9 => ?_)
      · have u10 : y3_1.toInt ≤ (-1) := t_equ h9 (by decide : ((-1):Int32).toInt ≤ ((-1):Int))
        refine ev_loc f_X12_orNone (nx := 6) rfl rfl rfl rfl ?_
        refine ev_bp f_X12_orNone (nx := 8) (v := 6) rfl (by decide) rfl ?_
        refine ev_inV2 f_X12_orNone (nx := 11) (lo2 := [(0, .ref 69), (1, .int 6)]) rfl rfl rfl rfl f_X12_refuse (hI.wf.s rfl) rfl rfl rfl rfl rfl ?_
        refine ev_loc f_X12_refuse (nx := 1) rfl rfl rfl rfl ?_
        refine ev_loc f_X12_refuse (nx := 2) rfl rfl rfl rfl ?_
        refine ev_putIT f_X12_refuse (nx := 5) rfl (hI.wf.s rfl) rfl rfl rfl (hI.put0 (hI.wf.s rfl) rfl rfl) (hX.upI rfl) (fun g11 e11 hI hX => ?_)
        refine ev_ic f_X12_refuse (nx := 6) (v := -1) rfl (by decide) rfl ?_
        refine ev_retK1 f_X12_refuse rfl rfl rfl ?_
        refine ev_jmp f_X12_orNone (nx := 19) rfl rfl rfl ?_
        refine ev_retK1 f_X12_orNone rfl rfl rfl ?_
        exact ev_ret f_X12_away rfl rfl rfl ⟨_, _, _, rfl, hI, hX, ⟨_, rfl, (by decide : ((-1):Int) ≤ ((-1):Int32).toInt), (Int.le_trans (by decide : ((-1):Int32).toInt ≤ ((-1):Int)) (by decide : ((-1):Int) ≤ 63)), (show ∀ D : s_D, t_ME 0 gi D → t_Cb D → s_DB D → (gi 69 46).toInt = -1 → s_AW D ((-1) : Int) from (by
                                                            intro D hm hb hd h46
                                                            have ha : (gi 70 1).toInt = D 1 := hm.1.1.2.1
                                                            have h4 : (gi 70 4).toInt = D 4 := hm.1.2.1
                                                            have g := j3_0 D hm hb hd h46
                                                            have fh := t_F_X hXh
                                                            have m1 : (gi3 70 1).toInt = D 1 := by rw [t_F_nc fh rfl (by decide)]; exact ha
                                                            have hn2 := s_n2_of (D := D) m1 s5
                                                            have hw := s_wb_end g (by omega)
                                                            rw [show y3_1.toInt = -1 by omega] at hw
                                                            exact hw))⟩⟩
      · have r12 : y3_1.toInt ≠ (-1) := fun e => h9 (Int32.toInt_inj.mp (e.trans (by decide : ((-1):Int) = ((-1) : Int32).toInt)))
        have l13 : 0 ≤ y3_1.toInt := t_nel h9 l3_1 rfl rfl
        refine ev_loc f_X12_orNone (nx := 15) rfl rfl rfl rfl ?_
        refine ev_loc f_X12_orNone (nx := 16) rfl rfl rfl rfl ?_
        refine ev_inV2 f_X12_orNone (nx := 19) (lo2 := [(0, .ref 69), (1, .int y3_1)]) rfl rfl rfl rfl f_X12_gives (hI.wf.s rfl) rfl rfl rfl rfl rfl ?_
        refine ev_loc f_X12_gives (nx := 1) rfl rfl rfl rfl ?_
        refine ev_ic f_X12_gives (nx := 2) (v := 0) rfl (by decide) rfl ?_
        refine ev_putIT f_X12_gives (nx := 5) rfl (hI.wf.s rfl) rfl rfl rfl (hI.put0 (hI.wf.s rfl) rfl rfl) (hX.upI rfl) (fun g14 e14 hI hX => ?_)
        refine ev_loc f_X12_gives (nx := 6) rfl rfl rfl rfl ?_
        refine ev_retK1 f_X12_gives rfl rfl rfl ?_
        refine ev_retK1 f_X12_orNone rfl rfl rfl ?_
        exact ev_ret f_X12_away rfl rfl rfl ⟨_, _, _, rfl, hI, hX, ⟨_, rfl, (Int.le_trans (by decide : ((-1):Int) ≤ 0) l13), u3_1, (show ∀ D : s_D, t_ME 0 gi D → t_Cb D → s_DB D → (gi 69 46).toInt = -1 → s_AW D y3_1.toInt from (by
                                                            intro D hm hb hd h46
                                                            have ha : (gi 70 1).toInt = D 1 := hm.1.1.2.1
                                                            have h4 : (gi 70 4).toInt = D 4 := hm.1.2.1
                                                            have g := j3_0 D hm hb hd h46
                                                            have fh := t_F_X hXh
                                                            have m1 : (gi3 70 1).toInt = D 1 := by rw [t_F_nc fh rfl (by decide)]; exact ha
                                                            have hn2 := s_n2_of (D := D) m1 s5
                                                            have hw := s_wb_end g (by omega)
                                                            exact hw))⟩⟩
    · have r15 : y3_2.toInt < z5.toInt := Int32.lt_iff_toInt_lt.mp (t_nle h6)
      have u16 : y3_2.toInt ≤ 63 := t_ltu (t_nle h6) u5 rfl
      refine ev_loc f_X12_away (nx := 17) rfl rfl rfl rfl ?_
      refine ev_ic f_X12_away (nx := 18) (v := -1) rfl (by decide) rfl ?_
      refine ev_if f_X12_away (t1 := 34) (t2 := 21) rfl rfl rfl (fun h17 => ?_) (fun h17 => ?_)
      · have u18 : y3_1.toInt ≤ (-1) := t_equ h17 (by decide : ((-1):Int32).toInt ≤ ((-1):Int))
        refine ev_loc f_X12_away (nx := 35) rfl rfl rfl rfl ?_
        refine ev_loc f_X12_away (nx := 36) rfl rfl rfl rfl ?_
        refine ev_loc f_X12_away (nx := 37) rfl rfl rfl rfl ?_
        refine ev_getR f_X12_away (nx := 40) rfl (hI.wf.s rfl) rfl rfl (hI.wf.r rfl) rfl rfl ?_
        refine ev_ic f_X12_away (nx := 41) (v := 4) rfl (by decide) rfl ?_
        refine ev_ialdv f_X12_away (nx := 42) (w := (gi 70 4)) rfl (hI.wf.s rfl) (by decide) (rfl : (4 : Int32).toNatClampNeg = 4) (by decide) c3_1 rfl ?_
        refine ev_qI f_X12_away (nx := 45) (r := []) rfl rfl rfl rfl rfl rfl rfl (c_n_leastByG hI (y3_2) ((gi 70 4)) l2 u2 (by omega)) rfl hX rfl (fun w20 gi20 gl20 gr20 l20 u20 hI hX hC20 q20 => ?_)
        have ff21 : (gi3 69 46).toInt = (gi 69 46).toInt := congrArg Int32.toInt c3_0
        have q20 : ∀ D : s_D, t_ME 0 gi3 D → t_Cb D → s_DB D → w20.toInt = s_an (s_LS (s_PX D (gi 70 4).toInt (s_A D) y3_2 (gi3 69 46).toInt) 0 0 0 0) := q20
        refine ev_ic f_X12_away (nx := 46) (v := -1) rfl (by decide) rfl ?_
        refine ev_if f_X12_away (t1 := 51) (t2 := 49) rfl rfl rfl (fun h22 => ?_) (fun h22 => ?_)
        · have u23 : w20.toInt ≤ (-1) := t_equ h22 (by decide : ((-1):Int32).toInt ≤ ((-1):Int))
          have l24 : (-1) ≤ w20.toInt := t_eql h22 (by decide : ((-1):Int) ≤ ((-1):Int32).toInt)
          refine ev_incR f_X12_away (nx := 54) (c := 1) (l := 1) (u := 64) rfl rfl (by decide) (by decide) l3_2 u16 rfl rfl (by decide) (by decide) rfl (fun z25 e25 l25 u25 => ?_)
          refine ev_jmp f_X12_away (nx := 4) rfl rfl rfl ?_
          refine ev_sub (lo := [(2, .int z25), (1, .int y3_1), (0, .ref 69)]) rfl (t_sc rfl (t_sc rfl (t_sc rfl t_sn))) ?_
          exact ih3 _ (by omega) gi20 gl20 gr20 (z25) (y3_1) hI hX  (Int.le_trans (by decide : (0:Int) ≤ 1) l25) u25 l3_1 (Int.le_trans u18 (by decide : ((-1):Int) ≤ 63)) ((hC20.1 69 46 rfl).1.trans c3_0) ((hC20.1 70 4 rfl).1.trans c3_1) (by
                                                            intro D hm hb hd h46
                                                            have ha : (gi 70 1).toInt = D 1 := hm.1.1.2.1
                                                            have h4 : (gi 70 4).toInt = D 4 := hm.1.2.1
                                                            have g := j3_0 D hm hb hd h46
                                                            have fh := t_F_X hXh
                                                            have m1 : (gi3 70 1).toInt = D 1 := by rw [t_F_nc fh rfl (by decide)]; exact ha
                                                            have hmn : t_ME 0 gi3 D := hm.mv hb (fun j _ _ _ => congrFun (t_F_nc fh rfl (by decide)) (0 + j))
                                                            have hq := q20 D hmn hb hd
                                                            rw [show (gi3 69 46).toInt = -1 from (by rw [(fh 69 46 (by decide) rfl).1]; exact h46)] at hq
                                                            rw [show (gi 70 4).toInt = D 4 from h4] at hq
                                                            have hlo : 0 ≤ s_LS (s_PX D (D 4) (s_A D) y3_2 (-1)) 0 0 0 0 := s_LS_lo (s_PX_O hb hd hd.2.2.1.1 (s_A_b hd).1) _ _ _ _
                                                            have hn := s_an_n hlo
                                                            rw [← hq] at hn
                                                            have hn2 := s_n2_of (D := D) m1 s5
                                                            have hno : ¬ s_can D y3_2.toNatClampNeg := by
                                                              rw [s_can_i (by omega)]; have h9 := hn.mp (by omega); omega
                                                            exact s_wb_no g (by omega) (by omega) hno) rfl
        · have r26 : w20.toInt ≠ (-1) := fun e => h22 (Int32.toInt_inj.mp (e.trans (by decide : ((-1):Int) = ((-1) : Int32).toInt)))
          refine ev_loc f_X12_away (nx := 50) rfl rfl rfl rfl ?_
          refine ev_loc f_X12_away (nx := 51) (lo' := [(1, .int y3_2), (2, .int y3_2), (0, .ref 69)]) rfl rfl rfl rfl ?_
          refine ev_incR f_X12_away (nx := 54) (c := 1) (l := 1) (u := 64) rfl rfl (by decide) (by decide) l3_2 u16 rfl rfl (by decide) (by decide) rfl (fun z27 e27 l27 u27 => ?_)
          refine ev_jmp f_X12_away (nx := 4) rfl rfl rfl ?_
          refine ev_sub (lo := [(2, .int z27), (1, .int y3_2), (0, .ref 69)]) rfl (t_sc rfl (t_sc rfl (t_sc rfl t_sn))) ?_
          exact ih3 _ (by omega) gi20 gl20 gr20 (z27) (y3_2) hI hX  (Int.le_trans (by decide : (0:Int) ≤ 1) l27) u27 (Int.le_trans (by decide : ((-1):Int) ≤ 0) l3_2) u16 ((hC20.1 69 46 rfl).1.trans c3_0) ((hC20.1 70 4 rfl).1.trans c3_1) (by
                                                            intro D hm hb hd h46
                                                            have ha : (gi 70 1).toInt = D 1 := hm.1.1.2.1
                                                            have h4 : (gi 70 4).toInt = D 4 := hm.1.2.1
                                                            have g := j3_0 D hm hb hd h46
                                                            have fh := t_F_X hXh
                                                            have m1 : (gi3 70 1).toInt = D 1 := by rw [t_F_nc fh rfl (by decide)]; exact ha
                                                            have hmn : t_ME 0 gi3 D := hm.mv hb (fun j _ _ _ => congrFun (t_F_nc fh rfl (by decide)) (0 + j))
                                                            have hq := q20 D hmn hb hd
                                                            rw [show (gi3 69 46).toInt = -1 from (by rw [(fh 69 46 (by decide) rfl).1]; exact h46)] at hq
                                                            rw [show (gi 70 4).toInt = D 4 from h4] at hq
                                                            have hlo : 0 ≤ s_LS (s_PX D (D 4) (s_A D) y3_2 (-1)) 0 0 0 0 := s_LS_lo (s_PX_O hb hd hd.2.2.1.1 (s_A_b hd).1) _ _ _ _
                                                            have hn := s_an_n hlo
                                                            rw [← hq] at hn
                                                            have hn2 := s_n2_of (D := D) m1 s5
                                                            have hyes : s_can D y3_2.toNatClampNeg := by
                                                              rw [s_can_i (by omega)]; exact Int.not_le.mp (fun h => absurd (hn.mpr h) (by omega))
                                                            exact s_wb_yes g (by omega) (by omega) (by omega) (Or.inl (by omega)) hyes) rfl
      · have r28 : y3_1.toInt ≠ (-1) := fun e => h17 (Int32.toInt_inj.mp (e.trans (by decide : ((-1):Int) = ((-1) : Int32).toInt)))
        have l29 : 0 ≤ y3_1.toInt := t_nel h17 l3_1 rfl rfl
        refine ev_loc f_X12_away (nx := 22) rfl rfl rfl rfl ?_
        refine ev_anyLE f_X12_away (nx := 23) rfl rfl rfl rfl (fun z30 e30 => ?_)
        have i30 : z30.toInt = y3_2.toInt := by rw [e30]; exact Int32.toInt_toInt64 _
        refine ev_qI0 f_X12_away (nx := 26) (r := []) rfl rfl rfl rfl rfl rfl rfl (c_n_bits hI (z30) (s_i2l6 (by omega) (by omega) e30)) rfl (fun w31 l31 u31 q31 => ?_)
        have q31 : w31.toInt = ((s_pc z30.toUInt64.toNat : Nat) : Int) := q31
        refine ev_loc f_X12_away (nx := 27) rfl rfl rfl rfl ?_
        refine ev_anyLE f_X12_away (nx := 28) rfl rfl rfl rfl (fun z32 e32 => ?_)
        have i32 : z32.toInt = y3_1.toInt := by rw [e32]; exact Int32.toInt_toInt64 _
        refine ev_qI0 f_X12_away (nx := 31) (r := [.int w31]) rfl rfl rfl rfl rfl rfl rfl (c_n_bits hI (z32) (s_i2l6 (by omega) (by omega) e32)) rfl (fun w33 l33 u33 q33 => ?_)
        have q33 : w33.toInt = ((s_pc z32.toUInt64.toNat : Nat) : Int) := q33
        refine ev_if f_X12_away (t1 := 51) (t2 := 34) rfl rfl rfl (fun h34 => ?_) (fun h34 => ?_)
        · have r35 : w33.toInt ≤ w31.toInt := Int32.le_iff_toInt_le.mp h34
          refine ev_incR f_X12_away (nx := 54) (c := 1) (l := 1) (u := 64) rfl rfl (by decide) (by decide) l3_2 u16 rfl rfl (by decide) (by decide) rfl (fun z36 e36 l36 u36 => ?_)
          refine ev_jmp f_X12_away (nx := 4) rfl rfl rfl ?_
          refine ev_sub (lo := [(2, .int z36), (1, .int y3_1), (0, .ref 69)]) rfl (t_sc rfl (t_sc rfl (t_sc rfl t_sn))) ?_
          exact ih3 _ (by omega) gi3 gl3 gr3 (z36) (y3_1) hI hX  (Int.le_trans (by decide : (0:Int) ≤ 1) l36) u36 (Int.le_trans (by decide : ((-1):Int) ≤ 0) l29) u3_1 c3_0 c3_1 (by
                                                            intro D hm hb hd h46
                                                            have ha : (gi 70 1).toInt = D 1 := hm.1.1.2.1
                                                            have h4 : (gi 70 4).toInt = D 4 := hm.1.2.1
                                                            have g := j3_0 D hm hb hd h46
                                                            have fh := t_F_X hXh
                                                            have m1 : (gi3 70 1).toInt = D 1 := by rw [t_F_nc fh rfl (by decide)]; exact ha
                                                            have b1 := s_i2l (by omega) e30
                                                            have b2 := s_i2l (by omega) e32
                                                            have p1 := q31
                                                            have p2 := q33
                                                            rw [b1] at p1
                                                            rw [b2] at p2
                                                            exact s_wb_skip g (by omega) (by omega) (by omega) (by omega)) rfl
        · have r37 : w31.toInt < w33.toInt := Int32.lt_iff_toInt_lt.mp (t_nle h34)
          have u38 : w31.toInt ≤ 5 := t_ltu (t_nle h34) u33 rfl
          have l39 : 1 ≤ w33.toInt := t_ltl (t_nle h34) l31 rfl
          refine ev_loc f_X12_away (nx := 35) rfl rfl rfl rfl ?_
          refine ev_loc f_X12_away (nx := 36) rfl rfl rfl rfl ?_
          refine ev_loc f_X12_away (nx := 37) rfl rfl rfl rfl ?_
          refine ev_getR f_X12_away (nx := 40) rfl (hI.wf.s rfl) rfl rfl (hI.wf.r rfl) rfl rfl ?_
          refine ev_ic f_X12_away (nx := 41) (v := 4) rfl (by decide) rfl ?_
          refine ev_ialdv f_X12_away (nx := 42) (w := (gi 70 4)) rfl (hI.wf.s rfl) (by decide) (rfl : (4 : Int32).toNatClampNeg = 4) (by decide) c3_1 rfl ?_
          refine ev_qI f_X12_away (nx := 45) (r := []) rfl rfl rfl rfl rfl rfl rfl (c_n_leastByG hI (y3_2) ((gi 70 4)) l2 u2 (by omega)) rfl hX rfl (fun w41 gi41 gl41 gr41 l41 u41 hI hX hC41 q41 => ?_)
          have ff42 : (gi3 69 46).toInt = (gi 69 46).toInt := congrArg Int32.toInt c3_0
          have q41 : ∀ D : s_D, t_ME 0 gi3 D → t_Cb D → s_DB D → w41.toInt = s_an (s_LS (s_PX D (gi 70 4).toInt (s_A D) y3_2 (gi3 69 46).toInt) 0 0 0 0) := q41
          refine ev_ic f_X12_away (nx := 46) (v := -1) rfl (by decide) rfl ?_
          refine ev_if f_X12_away (t1 := 51) (t2 := 49) rfl rfl rfl (fun h43 => ?_) (fun h43 => ?_)
          · have u44 : w41.toInt ≤ (-1) := t_equ h43 (by decide : ((-1):Int32).toInt ≤ ((-1):Int))
            have l45 : (-1) ≤ w41.toInt := t_eql h43 (by decide : ((-1):Int) ≤ ((-1):Int32).toInt)
            refine ev_incR f_X12_away (nx := 54) (c := 1) (l := 1) (u := 64) rfl rfl (by decide) (by decide) l3_2 u16 rfl rfl (by decide) (by decide) rfl (fun z46 e46 l46 u46 => ?_)
            refine ev_jmp f_X12_away (nx := 4) rfl rfl rfl ?_
            refine ev_sub (lo := [(2, .int z46), (1, .int y3_1), (0, .ref 69)]) rfl (t_sc rfl (t_sc rfl (t_sc rfl t_sn))) ?_
            exact ih3 _ (by omega) gi41 gl41 gr41 (z46) (y3_1) hI hX  (Int.le_trans (by decide : (0:Int) ≤ 1) l46) u46 (Int.le_trans (by decide : ((-1):Int) ≤ 0) l29) u3_1 ((hC41.1 69 46 rfl).1.trans c3_0) ((hC41.1 70 4 rfl).1.trans c3_1) (by
                                                            intro D hm hb hd h46
                                                            have ha : (gi 70 1).toInt = D 1 := hm.1.1.2.1
                                                            have h4 : (gi 70 4).toInt = D 4 := hm.1.2.1
                                                            have g := j3_0 D hm hb hd h46
                                                            have fh := t_F_X hXh
                                                            have m1 : (gi3 70 1).toInt = D 1 := by rw [t_F_nc fh rfl (by decide)]; exact ha
                                                            have hmn : t_ME 0 gi3 D := hm.mv hb (fun j _ _ _ => congrFun (t_F_nc fh rfl (by decide)) (0 + j))
                                                            have hq := q41 D hmn hb hd
                                                            rw [show (gi3 69 46).toInt = -1 from (by rw [(fh 69 46 (by decide) rfl).1]; exact h46)] at hq
                                                            rw [show (gi 70 4).toInt = D 4 from h4] at hq
                                                            have hlo : 0 ≤ s_LS (s_PX D (D 4) (s_A D) y3_2 (-1)) 0 0 0 0 := s_LS_lo (s_PX_O hb hd hd.2.2.1.1 (s_A_b hd).1) _ _ _ _
                                                            have hn := s_an_n hlo
                                                            rw [← hq] at hn
                                                            have hn2 := s_n2_of (D := D) m1 s5
                                                            have hno : ¬ s_can D y3_2.toNatClampNeg := by
                                                              rw [s_can_i (by omega)]; have h9 := hn.mp (by omega); omega
                                                            exact s_wb_no g (by omega) (by omega) hno) rfl
          · have r47 : w41.toInt ≠ (-1) := fun e => h43 (Int32.toInt_inj.mp (e.trans (by decide : ((-1):Int) = ((-1) : Int32).toInt)))
            refine ev_loc f_X12_away (nx := 50) rfl rfl rfl rfl ?_
            refine ev_loc f_X12_away (nx := 51) (lo' := [(1, .int y3_2), (2, .int y3_2), (0, .ref 69)]) rfl rfl rfl rfl ?_
            refine ev_incR f_X12_away (nx := 54) (c := 1) (l := 1) (u := 64) rfl rfl (by decide) (by decide) l3_2 u16 rfl rfl (by decide) (by decide) rfl (fun z48 e48 l48 u48 => ?_)
            refine ev_jmp f_X12_away (nx := 4) rfl rfl rfl ?_
            refine ev_sub (lo := [(2, .int z48), (1, .int y3_2), (0, .ref 69)]) rfl (t_sc rfl (t_sc rfl (t_sc rfl t_sn))) ?_
            exact ih3 _ (by omega) gi41 gl41 gr41 (z48) (y3_2) hI hX  (Int.le_trans (by decide : (0:Int) ≤ 1) l48) u48 (Int.le_trans (by decide : ((-1):Int) ≤ 0) l3_2) u16 ((hC41.1 69 46 rfl).1.trans c3_0) ((hC41.1 70 4 rfl).1.trans c3_1) (by
                                                            intro D hm hb hd h46
                                                            have ha : (gi 70 1).toInt = D 1 := hm.1.1.2.1
                                                            have h4 : (gi 70 4).toInt = D 4 := hm.1.2.1
                                                            have g := j3_0 D hm hb hd h46
                                                            have fh := t_F_X hXh
                                                            have m1 : (gi3 70 1).toInt = D 1 := by rw [t_F_nc fh rfl (by decide)]; exact ha
                                                            have hmn : t_ME 0 gi3 D := hm.mv hb (fun j _ _ _ => congrFun (t_F_nc fh rfl (by decide)) (0 + j))
                                                            have hq := q41 D hmn hb hd
                                                            rw [show (gi3 69 46).toInt = -1 from (by rw [(fh 69 46 (by decide) rfl).1]; exact h46)] at hq
                                                            rw [show (gi 70 4).toInt = D 4 from h4] at hq
                                                            have hlo : 0 ≤ s_LS (s_PX D (D 4) (s_A D) y3_2 (-1)) 0 0 0 0 := s_LS_lo (s_PX_O hb hd hd.2.2.1.1 (s_A_b hd).1) _ _ _ _
                                                            have hn := s_an_n hlo
                                                            rw [← hq] at hn
                                                            have hn2 := s_n2_of (D := D) m1 s5
                                                            have hyes : s_can D y3_2.toNatClampNeg := by
                                                              rw [s_can_i (by omega)]; exact Int.not_le.mp (fun h => absurd (hn.mpr h) (by omega))
                                                            have b1 := s_i2l (by omega) e30
                                                            have b2 := s_i2l (by omega) e32
                                                            have p1 := q31
                                                            have p2 := q33
                                                            rw [b1] at p1
                                                            rw [b2] at p2
                                                            exact s_wb_yes g (by omega) (by omega) (by omega) (Or.inr (by omega)) hyes) rfl
  refine ev_sub (lo := [(2, .int 0), (1, .int (-1)), (0, .ref 69)]) rfl (t_sc rfl (t_sc rfl (t_sc rfl t_sn))) ?_
  exact L3 _ gi gl gr (0) ((-1)) hI hX  (by decide : (0:Int) ≤ (0:Int32).toInt) (Int.le_trans (by decide : (0:Int32).toInt ≤ (0:Int)) (by decide : (0:Int) ≤ 64)) (by decide : ((-1):Int) ≤ ((-1):Int32).toInt) (Int.le_trans (by decide : ((-1):Int32).toInt ≤ ((-1):Int)) (by decide : ((-1):Int) ≤ 63)) rfl rfl (by
                                                            intro D hm hb hd h46
                                                            exact s_wb_0) rfl
/-! ===== whom to send away: the answers are alike ===== -/
section AWYL
variable {sh : List (Nat ⊕ (Nat × Nat))} {gi g1 g2 : Nat → Nat → Int32} {gl l1 l2 : Nat → Nat → Int64} {gr r1 r2 : Nat → Nat → Value} {w1 : List (Nat × Nat)} {x1 x2 : Int32}
theorem t_L_away (hI : t_I sh gi gr) (hD : t_DR sh.length gi gl gr) (f1 : t_F w1 gi gl gr g1 l1 r1) (h70 : t_nc w1 70 = true) (hN1 : (g1 69 46).toInt = -1) (h4 : 1 ≤ (g1 70 4).toInt) (q1 : Q_d_away gi gl gr x1 g1 l1 r1) (q2 : Q_e_away g1 l1 r1 x2 g2 l2 r2) : x1 = x2 := by
  obtain ⟨u, hu, D, hb, hv, hl, hc, hm⟩ := hD.1
  have r70 : g1 70 = gi 70 := t_F_nc f1 h70 (by decide)
  have hm2 : t_ME 0 g1 D := by unfold t_ME; rw [r70]; exact hm
  have hd : s_DB D := s_DB_of hI hm hb (by rw [← r70]; exact h4)
  exact Int32.toInt_inj.mp (s_AW_u (q1 u D hu hl hc hb hv.1 (t_D_sail hI hb hm) hd) (q2 D hm2 hb hd hN1))
end AWYL
/-! ===== one SHIP less is never worse ===== -/
/-- the place, when the one at p is taken out; and back -/
noncomputable def s_dn (p s : Nat) : Nat := if s ≤ p then s else s - 1
noncomputable def s_sk (p j : Nat) : Nat := if j < p then j else j + 1
/-- Q is P without the SHIP at place p -/
noncomputable def s_RMV (P Q : Nat → Nat → Int) (p : Nat) : Prop := (p : Int) < P 0 0 ∧ Q 0 0 = P 0 0 - 1 ∧ Q 0 1 = P 0 1 ∧ (∀ t j : Nat, 1 ≤ t → t ≤ 4 → (j : Int) < Q 0 0 → Q t j = P t (s_sk p j)) ∧ (∀ t j : Nat, 5 ≤ t → t ≤ 7 → (j : Int) < P 0 1 → Q t j = P t j) ∧ ∀ m, Q 8 m = P 8 m
section WRT
variable {P Q : Nat → Nat → Int} {p : Nat}
theorem s_sk_dn {s : Nat} (h : s ≠ p) : s_sk p (s_dn p s) = s := by
  unfold s_sk s_dn
  split <;> split <;> omega
theorem s_ls_more (h : s_PO P) : ∀ (k : Nat) (m : Int) (o s c : Nat), 0 ≤ m → s_ls P (k + 1) m o s c ≤ s_ls P k m o s c
  | 0, m, o, s, c, h0 => by
    by_cases hd : P 0 0 ≤ (s : Int) ∧ P 0 1 ≤ (c : Int)
    · rw [s_ls_done hd, s_ls_done hd]; exact Int.le_refl _
    · have e : s_ls P 0 m o s c = 1000000000 := if_neg hd
      rw [e]; exact s_ls_hi
  | k + 1, m, o, s, c, h0 => by
    by_cases hd : P 0 0 ≤ (s : Int) ∧ P 0 1 ≤ (c : Int)
    · rw [s_ls_done hd, s_ls_done hd]; exact Int.le_refl _
    · have e1 : s_ls P (k + 2) m o s c = min (s_oS P (s_ls P (k + 1)) (s_bS P m o s) s c) (s_oC P (s_ls P (k + 1)) (s_bC P m o c) s c) := if_neg hd
      have e2 : s_ls P (k + 1) m o s c = min (s_oS P (s_ls P k) (s_bS P m o s) s c) (s_oC P (s_ls P k) (s_bC P m o c) s c) := if_neg hd
      have b1 := s_bS_m (o := o) (s := s) h h0
      have b2 := s_bC_m (o := o) (c := c) h h0
      have k1 : s_oS P (s_ls P (k + 1)) (s_bS P m o s) s c ≤ s_oS P (s_ls P k) (s_bS P m o s) s c := by
        unfold s_oS
        split
        · rename_i q
          have q2 := (h.1 s q.1).2.1
          have := s_ls_more h k (s_bS P m o s + P 2 s) 1 (s + 1) c (by omega)
          omega
        · exact Int.le_refl _
      have k2 : s_oC P (s_ls P (k + 1)) (s_bC P m o c) s c ≤ s_oC P (s_ls P k) (s_bC P m o c) s c := by
        unfold s_oC
        split
        · rename_i q
          have q2 := (h.2.1 c q.1).2.1
          have := s_ls_more h k (s_bC P m o c + P 6 c) 0 s (c + 1) (by omega)
          omega
        · exact Int.le_refl _
      rw [e1, e2]; omega
theorem s_ls_rem (h : s_PO P) (hq : s_PO Q) (hr : s_RMV P Q p) : ∀ (k : Nat) (m : Int) (o s c : Nat), 0 ≤ m → o ≤ 1 → s_ls Q k m o (s_dn p s) c ≤ s_ls P k m o s c
  | 0, m, o, s, c, h0, ho => by
    by_cases hd : P 0 0 ≤ (s : Int) ∧ P 0 1 ≤ (c : Int)
    · rw [s_ls_done hd, s_ls_done ⟨by rw [hr.2.1]; have := hr.1; unfold s_dn; split <;> omega, by rw [hr.2.2.1]; exact hd.2⟩]; exact Int.le_refl _
    · have e : s_ls P 0 m o s c = 1000000000 := if_neg hd
      rw [e]; exact s_ls_hi
  | k + 1, m, o, s, c, h0, ho => by
    obtain ⟨r1, r2, r3, r4, r5, r6⟩ := hr
    by_cases hd : P 0 0 ≤ (s : Int) ∧ P 0 1 ≤ (c : Int)
    · rw [s_ls_done hd, s_ls_done ⟨by rw [r2]; unfold s_dn; split <;> omega, by rw [r3]; exact hd.2⟩]; exact Int.le_refl _
    · by_cases hdq : Q 0 0 ≤ ((s_dn p s : Nat) : Int) ∧ Q 0 1 ≤ (c : Int)
      · rw [s_ls_done hdq]; exact s_ls_lo h _ _ _ _ _
      · have e1 : s_ls P (k + 1) m o s c = min (s_oS P (s_ls P k) (s_bS P m o s) s c) (s_oC P (s_ls P k) (s_bC P m o c) s c) := if_neg hd
        have e2 : s_ls Q (k + 1) m o (s_dn p s) c = min (s_oS Q (s_ls Q k) (s_bS Q m o (s_dn p s)) (s_dn p s) c) (s_oC Q (s_ls Q k) (s_bC Q m o c) (s_dn p s) c) := if_neg hdq
        have hC : s_oC Q (s_ls Q k) (s_bC Q m o c) (s_dn p s) c ≤ s_oC P (s_ls P k) (s_bC P m o c) s c := by
          by_cases hc : (c : Int) < P 0 1
          · have eb : s_bC Q m o c = s_bC P m o c := by unfold s_bC; rw [r5 5 c (by omega) (by omega) hc, r6]
            have b2 := s_bC_m (o := o) (c := c) h h0
            have q2 := (h.2.1 c hc).2.1
            have ih := s_ls_rem h hq ⟨r1, r2, r3, r4, r5, r6⟩ k (s_bC P m o c + P 6 c) 0 s (c + 1) (by omega) (by omega)
            rw [eb]
            unfold s_oC
            rw [r3, r5 5 c (by omega) (by omega) hc, r5 6 c (by omega) (by omega) hc, r5 7 c (by omega) (by omega) hc]
            split
            · omega
            · exact Int.le_refl _
          · have e : s_oC P (s_ls P k) (s_bC P m o c) s c = 1000000000 := if_neg (fun q => hc q.1)
            rw [e]; exact s_oC_hi
        have hS : min (s_oS Q (s_ls Q k) (s_bS Q m o (s_dn p s)) (s_dn p s) c) (s_oC Q (s_ls Q k) (s_bC Q m o c) (s_dn p s) c) ≤ s_oS P (s_ls P k) (s_bS P m o s) s c := by
          by_cases hs : (s : Int) < P 0 0
          · have b1 := s_bS_m (o := o) (s := s) h h0
            have q1 := (h.1 s hs).2.1
            have ih := s_ls_rem h hq ⟨r1, r2, r3, r4, r5, r6⟩ k (s_bS P m o s + P 2 s) 1 (s + 1) c (by omega) (by omega)
            by_cases hp : s = p
            · subst hp
              have ed : s_dn s (s + 1) = s_dn s s := by unfold s_dn; rw [if_neg (by omega), if_pos (Nat.le_refl _)]; rfl
              rw [ed] at ih
              rw [← e2]
              have k1 := s_ls_more hq k m o (s_dn s s) c h0
              have k2 : s_ls Q k m o (s_dn s s) c ≤ s_ls Q k (s_bS P m o s + P 2 s) 1 (s_dn s s) c := by
                by_cases o1 : o = 1
                · subst o1; exact s_ls_mono hq k _ _ _ _ _ h0 (by omega)
                · have o0 : o = 0 := by omega
                  subst o0
                  have t1 := s_ls_turn (k := k) (s := s_dn s s) (c := c) hq h0 (show 0 ≤ 1 by omega)
                  have t2 : m + Q 8 m.toNat ≤ s_bS P m 0 s := by rw [r6]; exact Int.le_max_right _ _
                  have t3 := (hq.2.2 m.toNat).1
                  exact Int.le_trans t1 (s_ls_mono hq k _ _ _ _ _ (by omega) (by omega))
              have h9 := @s_bS_le P m o s
              have h10 := Int.mul_nonneg (a := s_bS P m o s - P 1 s) (b := P 3 s) (by omega) (h.1 s hs).2.2
              have h11 := @s_ls_hi Q m o (s_dn s s) c (k + 1)
              unfold s_oS
              split <;> omega
            · have ed : s_dn p (s + 1) = s_dn p s + 1 := by unfold s_dn; split <;> split <;> omega
              have hlt : ((s_dn p s : Nat) : Int) < Q 0 0 := by rw [r2]; unfold s_dn; split <;> omega
              have es := s_sk_dn hp
              have x1 := r4 1 (s_dn p s) (by omega) (by omega) hlt
              have x2 := r4 2 (s_dn p s) (by omega) (by omega) hlt
              have x3 := r4 3 (s_dn p s) (by omega) (by omega) hlt
              have x4 := r4 4 (s_dn p s) (by omega) (by omega) hlt
              rw [es] at x1 x2 x3 x4
              rw [ed] at ih
              have eb : s_bS Q m o (s_dn p s) = s_bS P m o s := by unfold s_bS; rw [x1, r6]
              refine Int.le_trans (Int.min_le_left _ _) ?_
              rw [eb]
              unfold s_oS
              rw [x1, x2, x3, x4]
              split
              · rename_i q
                rw [if_pos ⟨hs, q.2⟩]; omega
              · rename_i q
                rw [if_neg (fun q2 => q ⟨hlt, q2.2⟩)]; exact Int.le_refl _
          · have e : s_oS P (s_ls P k) (s_bS P m o s) s c = 1000000000 := if_neg (fun q => hs q.1)
            rw [e]; exact Int.le_trans (Int.min_le_left _ _) s_oS_hi
        rw [e1, e2]
        exact Int.le_min.mpr ⟨hS, Int.le_trans (Int.min_le_right _ _) hC⟩
end WRT
/-! ===== the order of all without one; what one SHIP less comes to ===== -/
noncomputable def s_srt (K : Nat → Int) (n : Nat) : Prop := ∀ j k : Nat, j ≤ k → k < n → K j ≤ K k
section WR2
variable {K : Nat → Int} {a : Int} {A : Nat → Int} {B : Nat → Bool} {D : s_D} {q : Int}
theorem s_pk_hi : ∀ n j : Nat, s_pk K a n ≤ j → j < n → a < K j
  | 0, j, _, h => absurd h (Nat.not_lt_zero _)
  | n + 1, j, h, hj => by
    by_cases ha : a < K n
    · have e : s_pk K a (n + 1) = s_pk K a n := if_pos ha
      by_cases hn : j = n
      · rw [hn]; exact ha
      · exact s_pk_hi n j (by omega) (by omega)
    · have e : s_pk K a (n + 1) = n + 1 := if_neg ha
      omega
theorem s_pk_lo : ∀ n : Nat, 0 < s_pk K a n → K (s_pk K a n - 1) ≤ a
  | 0, h => absurd h (Nat.not_lt_zero _)
  | n + 1, h => by
    by_cases ha : a < K n
    · have e : s_pk K a (n + 1) = s_pk K a n := if_pos ha
      rw [e] at h ⊢
      exact s_pk_lo n h
    · have e : s_pk K a (n + 1) = n + 1 := if_neg ha
      rw [e]
      exact Int.not_lt.mp ha
theorem s_pk_ls {n : Nat} (hs : s_srt K n) {j : Nat} (h : j < s_pk K a n) : K j ≤ a := by
  have hp := s_pk_le K a n
  exact Int.le_trans (hs j (s_pk K a n - 1) (by omega) (by omega)) (s_pk_lo n (by omega))
theorem s_pk_uq : ∀ (n p : Nat), p ≤ n → (∀ j, p ≤ j → j < n → a < K j) → (p = 0 ∨ K (p - 1) ≤ a) → s_pk K a n = p
  | 0, p, hp, _, _ => by have : p = 0 := by omega
                         rw [this]; rfl
  | n + 1, p, hp, h1, h2 => by
    by_cases e : p = n + 1
    · subst e
      have h3 : K n ≤ a := by rcases h2 with h | h; omega; exact h
      exact if_neg (Int.not_lt.mpr h3)
    · have ha := h1 n (by omega) (Nat.lt_succ_self n)
      have e2 : s_pk K a (n + 1) = s_pk K a n := if_pos ha
      rw [e2]
      exact s_pk_uq n p (by omega) (fun j x y => h1 j x (by omega)) h2
theorem s_ins_l {F : Nat → Nat} {i p j : Nat} (h : j < p) : s_ins F i p j = F j := if_pos h
theorem s_ins_e {F : Nat → Nat} {i p : Nat} : s_ins F i p p = i := by unfold s_ins; rw [if_neg (by omega), if_pos rfl]
theorem s_ins_g {F : Nat → Nat} {i p j : Nat} (h : p < j) : s_ins F i p j = F (j - 1) := by unfold s_ins; rw [if_neg (by omega), if_neg (by omega)]
theorem s_or_srt (A : Nat → Int) : ∀ i : Nat, s_srt (fun j => A (s_or A i j)) i
  | 0 => fun _ _ _ h => absurd h (Nat.not_lt_zero _)
  | i + 1 => by
    have ih := s_or_srt A i
    intro j k hjk hk
    show A (s_ins (s_or A i) i (s_pk (fun j => A (s_or A i j)) (A i) i) j) ≤ A (s_ins (s_or A i) i (s_pk (fun j => A (s_or A i j)) (A i) i) k)
    have hp := s_pk_le (fun j => A (s_or A i j)) (A i) i
    have hhi := s_pk_hi (K := fun j => A (s_or A i j)) (a := A i) i
    have hls := fun j => s_pk_ls (a := A i) ih (j := j)
    generalize s_pk (fun j => A (s_or A i j)) (A i) i = p at hp hhi hls
    rcases Nat.lt_trichotomy j p with h | h | h
    · rw [s_ins_l h]
      rcases Nat.lt_trichotomy k p with g | g | g
      · rw [s_ins_l g]; exact ih j k hjk (by omega)
      · subst g; rw [s_ins_e]; exact hls j h
      · rw [s_ins_g g]; exact ih j (k - 1) (by omega) (by omega)
    · subst h
      rw [s_ins_e]
      by_cases g : k = j
      · subst g; rw [s_ins_e]; exact Int.le_refl _
      · rw [s_ins_g (by omega)]; exact Int.le_of_lt (hhi (k - 1) (by omega) (by omega))
    · rw [s_ins_g h, s_ins_g (by omega)]
      exact ih (j - 1) (k - 1) (by omega) (by omega)
theorem s_sk_l {p j : Nat} (h : j < p) : s_sk p j = j := if_pos h
theorem s_sk_g {p j : Nat} (h : p ≤ j) : s_sk p j = j + 1 := if_neg (by omega)
/-- one more goes in, in both orders -/
theorem s_ins_rm {F F' : Nat → Nat} {m p : Nat} (hs : s_srt (fun j => A (F j)) m) (hp : p < m) (hF : ∀ j, j < m - 1 → F' j = F (s_sk p j)) : ∃ r, r < m + 1 ∧ ∀ j, j < m → s_ins F' m (s_pk (fun j => A (F' j)) (A m) (m - 1)) j = s_ins F m (s_pk (fun j => A (F j)) (A m) m) (s_sk r j) := by
  have h1 := s_pk_le (fun j => A (F j)) (A m) m
  have hhi := s_pk_hi (K := fun j => A (F j)) (a := A m) m
  have hls := fun j => s_pk_ls (a := A m) hs (j := j)
  generalize hpk : s_pk (fun j => A (F j)) (A m) m = b at h1 hhi hls
  by_cases hb : p < b
  · have e : s_pk (fun j => A (F' j)) (A m) (m - 1) = b - 1 := by
      refine s_pk_uq _ _ (by omega) (fun j x y => ?_) ?_
      · show A m < A (F' j)
        rw [hF j y, s_sk_g (by omega)]; exact hhi (j + 1) (by omega) (by omega)
      · by_cases b1 : b - 1 = 0
        · exact Or.inl b1
        · right
          show A (F' (b - 1 - 1)) ≤ A m
          rw [hF _ (by omega)]
          exact hls _ (by unfold s_sk; split <;> omega)
    rw [e]
    refine ⟨p, by omega, fun j hj => ?_⟩
    rcases Nat.lt_trichotomy j (b - 1) with h | h | h
    · rw [s_ins_l h, hF j (by omega), s_ins_l (by unfold s_sk; split <;> omega)]
    · subst h; rw [s_ins_e, s_sk_g (by omega), show b - 1 + 1 = b by omega, s_ins_e]
    · rw [s_ins_g h, hF _ (by omega), s_sk_g (by omega), s_sk_g (by omega), s_ins_g (by omega)]
      exact congrArg F (by omega)
  · have e : s_pk (fun j => A (F' j)) (A m) (m - 1) = b := by
      refine s_pk_uq _ _ (by omega) (fun j x y => ?_) ?_
      · show A m < A (F' j)
        rw [hF j y]
        have hk : b ≤ s_sk p j ∧ s_sk p j < m := by unfold s_sk; split <;> omega
        exact hhi _ hk.1 hk.2
      · by_cases b1 : b = 0
        · exact Or.inl b1
        · right
          show A (F' (b - 1)) ≤ A m
          rw [hF _ (by omega), s_sk_l (by omega)]
          exact hls _ (by omega)
    rw [e]
    refine ⟨p + 1, by omega, fun j hj => ?_⟩
    rcases Nat.lt_trichotomy j b with h | h | h
    · rw [s_ins_l h, hF j (by omega), s_sk_l (by omega), s_sk_l (by omega), s_ins_l h]
    · subst h; rw [s_ins_e, s_sk_l (by omega), s_ins_e]
    · rw [s_ins_g h, hF _ (by omega)]
      by_cases hj2 : j < p + 1
      · rw [s_sk_l (by omega), s_sk_l hj2, s_ins_g h]
      · rw [s_sk_g (by omega), s_sk_g (by omega), s_ins_g (by omega)]
        exact congrArg F (by omega)
theorem s_ff_rm {i : Nat} (hi : ¬ B i = true) : ∀ m : Nat, (∀ j, j < m → j ≠ i → B j = true) → (m ≤ i → s_fn B m = m ∧ s_ff A B m = s_or A m) ∧ (i < m → s_fn B m = m - 1 ∧ ∃ p, p < m ∧ ∀ j, j < m - 1 → s_ff A B m j = s_or A m (s_sk p j))
  | 0, _ => ⟨fun _ => ⟨rfl, rfl⟩, fun h => absurd h (Nat.not_lt_zero _)⟩
  | m + 1, h => by
    obtain ⟨h1, h2⟩ := s_ff_rm hi m (fun j hj => h j (by omega))
    refine ⟨fun hm => ?_, fun hm => ?_⟩
    · obtain ⟨a1, a2⟩ := h1 (by omega)
      have hb := h m (by omega) (by omega)
      refine ⟨by rw [s_fn_y hb, a1], ?_⟩
      rw [s_ff_y hb, a1, a2]; rfl
    · by_cases e : m = i
      · subst e
        obtain ⟨a1, a2⟩ := h1 (Nat.le_refl _)
        have hp := s_pk_le (fun j => A (s_or A m j)) (A m) m
        refine ⟨by rw [s_fn_n hi, a1]; rfl, s_pk (fun j => A (s_or A m j)) (A m) m, by omega, fun j hj => ?_⟩
        rw [s_ff_n hi, a2]
        show s_or A m j = s_ins (s_or A m) m (s_pk (fun j => A (s_or A m j)) (A m) m) (s_sk (s_pk (fun j => A (s_or A m j)) (A m) m) j)
        generalize s_pk (fun j => A (s_or A m j)) (A m) m = p at hp
        by_cases g : j < p
        · rw [s_sk_l g, s_ins_l g]
        · rw [s_sk_g (by omega), s_ins_g (by omega)]; rfl
      · obtain ⟨a1, p, hp, a2⟩ := h2 (by omega)
        have hb := h m (by omega) e
        obtain ⟨r, hr, a3⟩ := s_ins_rm (A := A) (F := s_or A m) (F' := s_ff A B m) (s_or_srt A m) hp a2
        refine ⟨by rw [s_fn_y hb, a1]; omega, r, hr, fun j hj => ?_⟩
        rw [s_ff_y hb, a1]
        exact a3 j (by omega)
theorem s_ls_enough {P : Nat → Nat → Int} : ∀ (k : Nat) (m : Int) (o s c : Nat), ((P 0 0).toNat - s) + ((P 0 1).toNat - c) ≤ k → s_ls P (k + 1) m o s c = s_ls P k m o s c
  | 0, m, o, s, c, h => by
    have hd : P 0 0 ≤ (s : Int) ∧ P 0 1 ≤ (c : Int) := by omega
    rw [s_ls_done hd, s_ls_done hd]
  | k + 1, m, o, s, c, h => by
    by_cases hd : P 0 0 ≤ (s : Int) ∧ P 0 1 ≤ (c : Int)
    · rw [s_ls_done hd, s_ls_done hd]
    · have e1 : s_ls P (k + 2) m o s c = min (s_oS P (s_ls P (k + 1)) (s_bS P m o s) s c) (s_oC P (s_ls P (k + 1)) (s_bC P m o c) s c) := if_neg hd
      have e2 : s_ls P (k + 1) m o s c = min (s_oS P (s_ls P k) (s_bS P m o s) s c) (s_oC P (s_ls P k) (s_bC P m o c) s c) := if_neg hd
      have k1 : s_oS P (s_ls P (k + 1)) (s_bS P m o s) s c = s_oS P (s_ls P k) (s_bS P m o s) s c := by
        unfold s_oS
        split
        · rename_i q
          rw [s_ls_enough k _ 1 (s + 1) c (by omega)]
        · rfl
      have k2 : s_oC P (s_ls P (k + 1)) (s_bC P m o c) s c = s_oC P (s_ls P k) (s_bC P m o c) s c := by
        unfold s_oC
        split
        · rename_i q
          rw [s_ls_enough k _ 0 s (c + 1) (by omega)]
        · rfl
      rw [e1, e2, k1, k2]
/-- the numbers without a SHIP -/
theorem s_PX_RMV (hb : t_Cb D) {m : Int32} {i : Nat} (hi : (i : Int) < D 1) (hm : ∀ j, j < 6 → (s_mk m j = true ↔ j ≠ i)) : ∃ p, s_RMV (s_PD D q) (s_PX D q (s_A D) m (-1)) p := by
  have b1 := hb.2.1
  have h := (s_ff_rm (A := s_A D) (B := s_mk m) (i := i) (fun h => (hm i (by omega)).mp h rfl) (D 1).toNat (fun j hj hne => (hm j (by omega)).mpr hne)).2 (by omega)
  obtain ⟨h1, p, hp, h2⟩ := h
  refine ⟨p, ?_, ?_, ?_, ?_, ?_, ?_⟩
  · show (p : Int) < ((D 1).toNat : Int); omega
  · rw [s_PX_c]
    show ((s_fn (s_mk m) (D 1).toNat : Nat) : Int) = ((D 1).toNat : Int) - 1
    rw [h1]; omega
  · rw [s_PX_c]; rfl
  · intro t j t1 t4 hj
    rw [s_PX_c] at hj ⊢
    have hj2 : (j : Int) < ((s_fn (s_mk m) (D 1).toNat : Nat) : Int) := hj
    have e := h2 j (by omega)
    rcases (show t = 1 ∨ t = 2 ∨ t = 3 ∨ t = 4 by omega) with rfl | rfl | rfl | rfl
    · show s_A D (s_ff (s_A D) (s_mk m) (D 1).toNat j) = _; rw [e]; rfl
    · show D (54 + 5 * s_ff (s_A D) (s_mk m) (D 1).toNat j) = _; rw [e]; rfl
    · show D (55 + 5 * s_ff (s_A D) (s_mk m) (D 1).toNat j) = _; rw [e]; rfl
    · show D (56 + 5 * s_ff (s_A D) (s_mk m) (D 1).toNat j) = _; rw [e]; rfl
  · intro t j t1 t4 hj
    rw [s_PX_c]
    rcases (show t = 5 ∨ t = 6 ∨ t = 7 by omega) with rfl | rfl | rfl <;> rfl
  · intro m; rw [s_PX_c]; rfl
theorem s_LS_rem {P Q : Nat → Nat → Int} {p : Nat} (h : s_PO P) (hq : s_PO Q) (hr : s_RMV P Q p) : s_LS Q 0 0 0 0 ≤ s_LS P 0 0 0 0 := by
  have k := s_ls_rem h hq hr (((P 0 0).toNat - 0) + ((P 0 1).toNat - 0)) 0 0 0 0 (by omega) (by omega)
  have e : s_dn p 0 = 0 := if_pos (Nat.zero_le _)
  rw [e] at k
  have r1 := hr.1
  have r2 := hr.2.1
  have r3 := hr.2.2.1
  have e2 : ((P 0 0).toNat - 0) + ((P 0 1).toNat - 0) = (((Q 0 0).toNat - 0) + ((Q 0 1).toNat - 0)) + 1 := by omega
  unfold s_LS
  rw [← s_ls_enough (((Q 0 0).toNat - 0) + ((Q 0 1).toNat - 0)) 0 0 0 0 (Nat.le_refl _), ← e2]
  exact k
theorem s_1sh {y z : Int32} (h5 : 0 ≤ y.toInt ∧ y.toInt ≤ 5) (h : (y.toInt = 0 ∧ z.toInt = 1) ∨ (y.toInt = 1 ∧ z.toInt = 2) ∨ (y.toInt = 2 ∧ z.toInt = 4) ∨ (y.toInt = 3 ∧ z.toInt = 8) ∨ (y.toInt = 4 ∧ z.toInt = 16) ∨ (y.toInt = 5 ∧ z.toInt = 32) ∨ (y.toInt = 6 ∧ z.toInt = 64)) : z = Int32.ofNat (2 ^ y.toNatClampNeg) := by
  have c := t_clamp (i := y) h5.1
  apply Int32.toInt_inj.mp
  rcases h with ⟨h, h2⟩ | ⟨h, h2⟩ | ⟨h, h2⟩ | ⟨h, h2⟩ | ⟨h, h2⟩ | ⟨h, h2⟩ | ⟨h, h2⟩
  · rw [h2, show y.toNatClampNeg = 0 by omega]; rfl
  · rw [h2, show y.toNatClampNeg = 1 by omega]; rfl
  · rw [h2, show y.toNatClampNeg = 2 by omega]; rfl
  · rw [h2, show y.toNatClampNeg = 3 by omega]; rfl
  · rw [h2, show y.toNatClampNeg = 4 by omega]; rfl
  · rw [h2, show y.toNatClampNeg = 5 by omega]; rfl
  · omega
/-- the least without a SHIP -/
noncomputable def s_wo (D : s_D) (i : Nat) : Int := s_LS (s_PX D (D 4) (s_A D) (Int32.ofNat (2 ^ i)) (-1)) 0 0 0 0
theorem s_wo_le (hb : t_Cb D) (hd : s_DB D) {i : Nat} (hi : (i : Int) < D 1) : 0 ≤ s_wo D i ∧ s_wo D i ≤ s_LS (s_PD D (D 4)) 0 0 0 0 := by
  have b1 := hb.2.1
  have hh : ∀ (i : Nat), i < 6 → ∀ j, j < 6 → (s_mk (Int32.ofNat (2 ^ i)) j = true ↔ j ≠ i) := by decide +kernel
  obtain ⟨p, hr⟩ := s_PX_RMV (q := D 4) hb hi (hh i (by omega))
  have hQ := s_PX_O (q := D 4) (m := Int32.ofNat (2 ^ i)) (x := -1) hb hd hd.2.2.1.1 (s_A_b hd).1
  exact ⟨s_LS_lo hQ _ _ _ _, s_LS_rem (s_PD_O hb hd hd.2.2.1.1) hQ hr⟩
end WR2
/-! ===== printed by riv.py: worth: the class ===== -/
noncomputable def wl_d_worth : List (Nat × Nat) := [(0, 0), (28, 0), (28, 1), (28, 4), (28, 5), (29, 0), (30, 9999), (31, 9999), (32, 9999), (33, 9999), (34, 9999), (35, 0), (36, 9999), (37, 9999), (38, 9999), (39, 9999), (40, 9999)]
noncomputable def Q_d_worth (gi : Nat → Nat → Int32) (gl : Nat → Nat → Int64) (gr : Nat → Nat → Value) (ar1 : Int32) : Int32 → (Nat → Nat → Int32) → (Nat → Nat → Int64) → (Nat → Nat → Value) → Prop := fun (v : Int32) (gi2 : Nat → Nat → Int32) (gl2 : Nat → Nat → Int64) (gr2 : Nat → Nat → Value) => ∀ (u : Nat) (D : s_D), gr 0 6 = .ref u → t_VL gr u → t_CV gi gl u D → t_Cb D → (u = 3 ∨ 102 ≤ u) → (∀ s : Nat, (s : Int) < D 1 → 0 ≤ D (56 + 5 * s) ∧ D (56 + 5 * s) ≤ 1) → s_DB D → ((0 ≤ ar1.toInt ∧ ar1.toInt < D 1 ∧ (s_LS (s_PD D (D 4)) 0 0 0 0) < 1000000000) → v.toInt = (s_LS (s_PD D (D 4)) 0 0 0 0) - s_wo D ar1.toNatClampNeg) ∧ (¬ (0 ≤ ar1.toInt ∧ ar1.toInt < D 1 ∧ (s_LS (s_PD D (D 4)) 0 0 0 0) < 1000000000) → v.toInt = -1)
theorem c_d_worth {X : x_Ext} {d : Nat} {sh : List (Nat ⊕ (Nat × Nat))} {gi : Nat → Nat → Int32} {gl : Nat → Nat → Int64} {gr : Nat → Nat → Value} (hI : t_I sh gi gr) (ar1 : Int32) : x_Me X (d + 19) n_X11_worth [.ref 0, .int ar1] (sh, gi, gl, gr) (t_PI wl_d_worth sh gi gl gr (-2147483648) 2147483647 (Q_d_worth gi gl gr ar1)) := by
  have hX : t_X wl_d_worth sh gi gl gr gi gl gr := t_X.rf
  refine me_i f_X11_worth (hI.wf.s rfl) rfl rfl rfl ?_
  refine ev_loc f_X11_worth (nx := 1) rfl rfl rfl rfl ?_
  refine ev_loc f_X11_worth (nx := 2) rfl rfl rfl rfl ?_
  refine ev_inV2 f_X11_worth (nx := 5) (lo2 := [(0, .ref 0), (1, .int ar1)]) rfl rfl rfl rfl f_X11_isShip (hI.wf.s rfl) rfl rfl rfl rfl rfl ?_
  refine ev_loc f_X11_isShip (nx := 1) rfl rfl rfl rfl ?_
  refine ev_if f_X11_isShip (t1 := 22) (t2 := 4) rfl rfl rfl (fun h1 => ?_) (fun h1 => ?_)
  · have u2 : ar1.toInt ≤ (-1) := t_ltu h1 (by decide : (0:Int32).toInt ≤ (0:Int)) rfl
    refine ev_ic f_X11_isShip (nx := 23) (v := 0) rfl (by decide) rfl ?_
    refine ev_retK1 f_X11_isShip rfl rfl rfl ?_
    refine ev_t f_X11_worth (t1 := 8) (t2 := 14) rfl rfl rfl (by decide) ?_
    refine ev_loc f_X11_worth (nx := 9) rfl rfl rfl rfl ?_
    refine ev_ic f_X11_worth (nx := 10) (v := 1) rfl (by decide) rfl ?_
    refine ev_inV2 f_X11_worth (nx := 13) (lo2 := [(0, .ref 0), (1, .int 1)]) rfl rfl rfl rfl f_X11_refuse (hI.wf.s rfl) rfl rfl rfl rfl rfl ?_
    refine ev_loc f_X11_refuse (nx := 1) rfl rfl rfl rfl ?_
    refine ev_loc f_X11_refuse (nx := 2) rfl rfl rfl rfl ?_
    refine ev_putIT f_X11_refuse (nx := 5) rfl (hI.wf.s rfl) rfl rfl rfl (hI.put0 (hI.wf.s rfl) rfl rfl) (hX.upI rfl) (fun g3 e3 hI hX => ?_)
    refine ev_ic f_X11_refuse (nx := 6) (v := -1) rfl (by decide) rfl ?_
    refine ev_retK1 f_X11_refuse rfl rfl rfl ?_
    exact ev_ret f_X11_worth rfl rfl rfl ⟨_, _, _, rfl, hI, hX, ⟨_, rfl, (Int.le_trans (by decide : ((-2147483648):Int) ≤ (-1)) (by decide : ((-1):Int) ≤ ((-1):Int32).toInt)), (Int.le_trans (by decide : ((-1):Int32).toInt ≤ ((-1):Int)) (by decide : ((-1):Int) ≤ 2147483647)), (show ∀ (u : Nat) (D : s_D), gr 0 6 = .ref u → t_VL gr u → t_CV gi gl u D → t_Cb D → (u = 3 ∨ 102 ≤ u) → (∀ s : Nat, (s : Int) < D 1 → 0 ≤ D (56 + 5 * s) ∧ D (56 + 5 * s) ≤ 1) → s_DB D → ((0 ≤ ar1.toInt ∧ ar1.toInt < D 1 ∧ (s_LS (s_PD D (D 4)) 0 0 0 0) < 1000000000) → ((-1) : Int) = (s_LS (s_PD D (D 4)) 0 0 0 0) - s_wo D ar1.toNatClampNeg) ∧ (¬ (0 ≤ ar1.toInt ∧ ar1.toInt < D 1 ∧ (s_LS (s_PD D (D 4)) 0 0 0 0) < 1000000000) → ((-1) : Int) = -1) from (by
                                                            intro u D hu hl hc hb hv hsl hd
                                                            have hL := hc.2.2.1.1
                                                            exact ⟨fun h => absurd (And.intro h.1 h.2.1) (by omega), fun _ => rfl⟩))⟩⟩
  · have l4 : 0 ≤ ar1.toInt := t_lel (t_nlt h1) (by decide : (0:Int) ≤ (0:Int32).toInt)
    refine ev_loc f_X11_isShip (nx := 5) rfl rfl rfl rfl ?_
    refine ev_loc f_X11_isShip (nx := 6) rfl rfl rfl rfl ?_
    obtain ⟨a5, e5, p5⟩ := hI.2.2.2.1.1
    refine ev_getR f_X11_isShip (nx := 9) rfl (hI.wf.s rfl) rfl rfl e5 rfl rfl ?_
    obtain ⟨a6, e6, p6⟩ := p5.2.2.2.2.1
    refine ev_getR f_X11_isShip (nx := 12) rfl p5.1 rfl rfl e6 rfl rfl ?_
    refine ev_getI f_X11_isShip (nx := 15) rfl p6.1 rfl rfl rfl ?_
    obtain ⟨l7, u7⟩ := hI.b p6.1 (t_bdK rfl : t_bd 3 0 = some (0, 6))
    refine ev_if f_X11_isShip (t1 := 22) (t2 := 18) rfl rfl rfl (fun h8 => ?_) (fun h8 => ?_)
    · have r9 : (gi a6 0).toInt ≤ ar1.toInt := Int32.le_iff_toInt_le.mp h8
      refine ev_ic f_X11_isShip (nx := 23) (v := 0) rfl (by decide) rfl ?_
      refine ev_retK1 f_X11_isShip rfl rfl rfl ?_
      refine ev_t f_X11_worth (t1 := 8) (t2 := 14) rfl rfl rfl (by decide) ?_
      refine ev_loc f_X11_worth (nx := 9) rfl rfl rfl rfl ?_
      refine ev_ic f_X11_worth (nx := 10) (v := 1) rfl (by decide) rfl ?_
      refine ev_inV2 f_X11_worth (nx := 13) (lo2 := [(0, .ref 0), (1, .int 1)]) rfl rfl rfl rfl f_X11_refuse (hI.wf.s rfl) rfl rfl rfl rfl rfl ?_
      refine ev_loc f_X11_refuse (nx := 1) rfl rfl rfl rfl ?_
      refine ev_loc f_X11_refuse (nx := 2) rfl rfl rfl rfl ?_
      refine ev_putIT f_X11_refuse (nx := 5) rfl (hI.wf.s rfl) rfl rfl rfl (hI.put0 (hI.wf.s rfl) rfl rfl) (hX.upI rfl) (fun g10 e10 hI hX => ?_)
      refine ev_ic f_X11_refuse (nx := 6) (v := -1) rfl (by decide) rfl ?_
      refine ev_retK1 f_X11_refuse rfl rfl rfl ?_
      exact ev_ret f_X11_worth rfl rfl rfl ⟨_, _, _, rfl, hI, hX, ⟨_, rfl, (Int.le_trans (by decide : ((-2147483648):Int) ≤ (-1)) (by decide : ((-1):Int) ≤ ((-1):Int32).toInt)), (Int.le_trans (by decide : ((-1):Int32).toInt ≤ ((-1):Int)) (by decide : ((-1):Int) ≤ 2147483647)), (show ∀ (u : Nat) (D : s_D), gr 0 6 = .ref u → t_VL gr u → t_CV gi gl u D → t_Cb D → (u = 3 ∨ 102 ≤ u) → (∀ s : Nat, (s : Int) < D 1 → 0 ≤ D (56 + 5 * s) ∧ D (56 + 5 * s) ≤ 1) → s_DB D → ((0 ≤ ar1.toInt ∧ ar1.toInt < D 1 ∧ (s_LS (s_PD D (D 4)) 0 0 0 0) < 1000000000) → ((-1) : Int) = (s_LS (s_PD D (D 4)) 0 0 0 0) - s_wo D ar1.toNatClampNeg) ∧ (¬ (0 ≤ ar1.toInt ∧ ar1.toInt < D 1 ∧ (s_LS (s_PD D (D 4)) 0 0 0 0) < 1000000000) → ((-1) : Int) = -1) from (by
                                                            intro u D hu hl hc hb hv hsl hd
                                                            have ha : a5 = u := Value.ref.inj (e5.symm.trans hu)
                                                            subst ha
                                                            have hb1 : (a5 + 3) = a6 := Value.ref.inj ((hl.1.2.2.2.1).symm.trans e6)
                                                            subst hb1
                                                            have hL := hc.2.2.1.1
                                                            exact ⟨fun h => absurd (And.intro h.1 h.2.1) (by omega), fun _ => rfl⟩))⟩⟩
    · have r11 : ar1.toInt < (gi a6 0).toInt := Int32.lt_iff_toInt_lt.mp (t_nle h8)
      have u12 : ar1.toInt ≤ 5 := t_ltu (t_nle h8) u7 rfl
      have l13 : 1 ≤ (gi a6 0).toInt := t_ltl (t_nle h8) l4 rfl
      refine ev_ic f_X11_isShip (nx := 19) (v := 1) rfl (by decide) rfl ?_
      refine ev_jmp f_X11_isShip (nx := 23) rfl rfl rfl ?_
      refine ev_retK1 f_X11_isShip rfl rfl rfl ?_
      refine ev_f f_X11_worth (t1 := 8) (t2 := 14) rfl rfl rfl (by decide) ?_
      refine ev_loc f_X11_worth (nx := 15) rfl rfl rfl rfl ?_
      refine ev_inV1 f_X11_worth (nx := 18) (lo2 := [(0, .ref 0)]) rfl rfl rfl rfl f_X11_leastAsTold (hI.wf.s rfl) rfl rfl rfl rfl rfl ?_
      refine ev_loc f_X11_leastAsTold (nx := 1) rfl rfl rfl rfl ?_
      refine ev_getR f_X11_leastAsTold (nx := 4) rfl (hI.wf.s rfl) rfl rfl (hI.wf.r rfl) rfl rfl ?_
      refine ev_loc f_X11_leastAsTold (nx := 5) rfl rfl rfl rfl ?_
      refine ev_getR f_X11_leastAsTold (nx := 8) (v := .ref a5) rfl (hI.wf.s rfl) rfl rfl e5 rfl rfl ?_
      refine ev_qN f_X11_leastAsTold (nx := 11) (r := []) rfl rfl rfl rfl rfl rfl rfl (c_d_takeAll hI (a5) p5) rfl hX rfl (fun gi14 gl14 gr14 hI hX hC14 q14 => ?_)
      have q14 : ∀ D : s_D, t_VL gr a5 → t_CV gi gl a5 D → (a5 = 3 ∨ 102 ≤ a5) → t_Cb D → (∀ s : Nat, (s : Int) < D 1 → 0 ≤ D (56 + 5 * s) ∧ D (56 + 5 * s) ≤ 1) → s_CP (s_PD D (D 4)) gi14 gr14 ∧ gr14 28 0 = .ref a5 ∧ t_CV gi14 gl14 a5 D ∧ (gi14 28 1).toInt = D 4 := q14
      replace p5 := p5.ext hC14.2
      replace p6 := p6.ext hC14.2
      refine ev_loc f_X11_leastAsTold (nx := 12) rfl rfl rfl rfl ?_
      refine ev_getR f_X11_leastAsTold (nx := 15) rfl (hI.wf.s rfl) rfl rfl (hI.wf.r rfl) rfl rfl ?_
      refine ev_qI f_X11_leastAsTold (nx := 18) (r := []) rfl rfl rfl rfl rfl rfl rfl (c_d_leastWaits hI ) rfl hX rfl (fun w15 gi15 gl15 gr15 l15 u15 hI hX hC15 q15 => ?_)
      have q15 : ∀ P : Nat → Nat → Int, s_CP P gi14 gr14 → s_PB P → s_PO P → w15.toInt = s_LS P 0 0 0 0 := q15
      replace p5 := p5.ext hC15.2
      replace p6 := p6.ext hC15.2
      refine ev_retK1 f_X11_leastAsTold rfl rfl rfl ?_
      refine ev_loc f_X11_worth (nx := 19) (lo' := [(2, .int w15), (0, .ref 0), (1, .int ar1)]) rfl rfl rfl rfl ?_
      refine ev_loc f_X11_worth (nx := 20) rfl rfl rfl rfl ?_
      refine ev_ldW f_X11_worth (nx := 23) (v := 1000000000) rfl (by decide) rfl ?_
      refine ev_if f_X11_worth (t1 := 33) (t2 := 26) rfl rfl rfl (fun h16 => ?_) (fun h16 => ?_)
      · have u17 : w15.toInt ≤ 999999999 := t_ltu h16 (by decide : (1000000000:Int32).toInt ≤ (1000000000:Int)) rfl
        refine ev_loc f_X11_worth (nx := 34) rfl rfl rfl rfl ?_
        refine ev_getR f_X11_worth (nx := 37) rfl (hI.wf.s rfl) rfl rfl (hI.wf.r rfl) rfl rfl ?_
        refine ev_loc f_X11_worth (nx := 38) rfl rfl rfl rfl ?_
        have hXa := hX
        refine ev_getR f_X11_worth (nx := 41) (v := .ref a5) rfl (hI.wf.s rfl) rfl rfl ((hC15.1 0 6 rfl).2.2.trans ((hC14.1 0 6 rfl).2.2.trans e5)) rfl rfl ?_
        refine ev_ic f_X11_worth (nx := 42) (v := 1) rfl (by decide) rfl ?_
        refine ev_loc f_X11_worth (nx := 43) rfl rfl rfl rfl ?_
        refine ev_shl1E f_X11_worth (nx := 44) rfl l4 u12 (by decide) (by decide) rfl (fun z18 s18 => ?_)
        have l18 : 1 ≤ z18.toInt := by have := l4; have := u12; omega
        have u18 : z18.toInt ≤ 32 := by have := l4; have := u12; omega
        refine ev_ic f_X11_worth (nx := 45) (v := -1) rfl (by decide) rfl ?_
        refine ev_ic f_X11_worth (nx := 46) (v := 0) rfl (by decide) rfl ?_
        refine ev_qN f_X11_worth (nx := 49) (r := []) rfl rfl rfl rfl rfl rfl rfl (c_d_takeShipsG hI (a5) p5 (z18) ((-1)) (0) (by decide : (0:Int) ≤ (0:Int32).toInt) (Int.le_trans (by decide : (0:Int32).toInt ≤ (0:Int)) (by decide : (0:Int) ≤ 500))) rfl hX rfl (fun gi19 gl19 gr19 hI hX hC19 q19 => ?_)
        have q19 : ∀ D : s_D, t_VL gr15 a5 → t_CV gi15 gl15 a5 D → (a5 = 3 ∨ 102 ≤ a5) → t_Cb D → s_DB D → (∀ s : Nat, (s : Int) < D 1 → 0 ≤ D (56 + 5 * s) ∧ D (56 + 5 * s) ≤ 1) → (gi19 29 0).toInt = ((s_fn (s_mk z18) (D 1).toNat : Nat) : Int) ∧ s_RF (s_ff (s_Al (s_A D) ((-1) : Int) (0 : Int)) (s_mk z18) (D 1).toNat) (fun k => (k : Int)) (gi19 30) (s_fn (s_mk z18) (D 1).toNat) ∧ s_RF (s_ff (s_Al (s_A D) ((-1) : Int) (0 : Int)) (s_mk z18) (D 1).toNat) (s_Al (s_A D) ((-1) : Int) (0 : Int)) (gi19 31) (s_fn (s_mk z18) (D 1).toNat) ∧ s_RF (s_ff (s_Al (s_A D) ((-1) : Int) (0 : Int)) (s_mk z18) (D 1).toNat) (fun k => D (54 + 5 * k)) (gi19 32) (s_fn (s_mk z18) (D 1).toNat) ∧ s_RF (s_ff (s_Al (s_A D) ((-1) : Int) (0 : Int)) (s_mk z18) (D 1).toNat) (fun k => D (55 + 5 * k)) (gi19 33) (s_fn (s_mk z18) (D 1).toNat) ∧ s_RF (s_ff (s_Al (s_A D) ((-1) : Int) (0 : Int)) (s_mk z18) (D 1).toNat) (fun k => D (56 + 5 * k)) (gi19 34) (s_fn (s_mk z18) (D 1).toNat) := q19
        replace p5 := p5.ext hC19.2
        replace p6 := p6.ext hC19.2
        refine ev_loc f_X11_worth (nx := 50) rfl rfl rfl rfl ?_
        have hXi := hX
        refine ev_loc f_X11_worth (nx := 51) rfl rfl rfl rfl ?_
        refine ev_loc f_X11_worth (nx := 52) rfl rfl rfl rfl ?_
        refine ev_getR f_X11_worth (nx := 55) rfl (hI.wf.s rfl) rfl rfl (hI.wf.r rfl) rfl rfl ?_
        refine ev_qI f_X11_worth (nx := 58) (r := [.int w15, .ref 0]) rfl rfl rfl rfl rfl rfl rfl (c_d_leastWaits hI ) rfl hX rfl (fun w20 gi20 gl20 gr20 l20 u20 hI hX hC20 q20 => ?_)
        have q20 : ∀ P : Nat → Nat → Int, s_CP P gi19 gr19 → s_PB P → s_PO P → w20.toInt = s_LS P 0 0 0 0 := q20
        replace p5 := p5.ext hC20.2
        replace p6 := p6.ext hC20.2
        refine ev_anyIE f_X11_worth (nx := 59) rfl rfl rfl rfl (fun z21 e21 => ?_)
        refine ev_inV2 f_X11_worth (nx := 62) (lo2 := [(0, .ref 0), (1, .int z21)]) rfl rfl rfl rfl f_X11_answer (hI.wf.s rfl) rfl rfl rfl rfl rfl ?_
        refine ev_loc f_X11_answer (nx := 1) rfl rfl rfl rfl ?_
        refine ev_ic f_X11_answer (nx := 2) (v := 0) rfl (by decide) rfl ?_
        refine ev_putIT f_X11_answer (nx := 5) rfl (hI.wf.s rfl) rfl rfl rfl (hI.put0 (hI.wf.s rfl) rfl rfl) (hX.upI rfl) (fun g22 e22 hI hX => ?_)
        refine ev_loc f_X11_answer (nx := 6) rfl rfl rfl rfl ?_
        refine ev_retK1 f_X11_answer rfl rfl rfl ?_
        exact ev_ret f_X11_worth rfl rfl rfl ⟨_, _, _, rfl, hI, hX, ⟨_, rfl, (t_lo z21), (t_hi z21), (show ∀ (u : Nat) (D : s_D), gr 0 6 = .ref u → t_VL gr u → t_CV gi gl u D → t_Cb D → (u = 3 ∨ 102 ≤ u) → (∀ s : Nat, (s : Int) < D 1 → 0 ≤ D (56 + 5 * s) ∧ D (56 + 5 * s) ≤ 1) → s_DB D → ((0 ≤ ar1.toInt ∧ ar1.toInt < D 1 ∧ (s_LS (s_PD D (D 4)) 0 0 0 0) < 1000000000) → z21.toInt = (s_LS (s_PD D (D 4)) 0 0 0 0) - s_wo D ar1.toNatClampNeg) ∧ (¬ (0 ≤ ar1.toInt ∧ ar1.toInt < D 1 ∧ (s_LS (s_PD D (D 4)) 0 0 0 0) < 1000000000) → z21.toInt = -1) from (by
                                                            intro u D hu hl hc hb hv hsl hd
                                                            have ha : a5 = u := Value.ref.inj (e5.symm.trans hu)
                                                            subst ha
                                                            have hb1 : (a5 + 3) = a6 := Value.ref.inj ((hl.1.2.2.2.1).symm.trans e6)
                                                            subst hb1
                                                            have hL := hc.2.2.1.1
                                                            have hq := q14 D hl hc hv hb hsl
                                                            have hq2 := q15 _ hq.1 (s_PD_B hb hd ⟨hd.2.2.1.1, hd.2.2.1.2⟩) (s_PD_O hb hd hd.2.2.1.1)
                                                            have hKa := t_nd_fr hXa rfl
                                                            have hla := hl.fr (fun K k1 k2 => hKa K (by omega))
                                                            have hca := hc.fr (fun K k1 k2 => hKa K (by omega))
                                                            have hs := q19 D hla hca hv hb hd hsl
                                                            have hKi := t_nd_fr hXi rfl
                                                            have hci := hc.fr (fun K k1 k2 => hKi K (by omega))
                                                            have hAb := s_A_b hd
                                                            have g1 := (s_KP_of hq.1 hq.2.1 hq.2.2.2).fr hC15 rfl
                                                            have hcp := (g1.fr hC19 rfl).cp hv hci hs.1 hs.2.2.1 hs.2.2.2.1 hs.2.2.2.2.1 hs.2.2.2.2.2
                                                            rw [show s_Al (s_A D) _ _ = s_A D from s_Al_no] at hcp
                                                            have hq3 : w20.toInt = s_LS (s_PX D (D 4) (s_A D) z18 (-1)) 0 0 0 0 := q20 _ hcp (s_PX_B hb hd ⟨hd.2.2.1.1, hd.2.2.1.2⟩ hAb.2) (s_PX_O hb hd hd.2.2.1.1 hAb.1)
                                                            rw [s_1sh ⟨by omega, by omega⟩ s18] at hq3
                                                            have hq4 : w20.toInt = s_wo D ar1.toNatClampNeg := hq3
                                                            have c1 := t_clamp (i := ar1) (by omega)
                                                            have hw := s_wo_le hb hd (i := ar1.toNatClampNeg) (by omega)
                                                            have hl0 := s_LS_lo (s_PD_O (q := D 4) hb hd hd.2.2.1.1) 0 0 0 0
                                                            have hz := s_sub e21 hq2 hq4 (by omega)
                                                            exact ⟨fun _ => hz, fun h => absurd (show _ from ⟨by omega, by omega, by omega⟩) h⟩))⟩⟩
      · have l23 : 1000000000 ≤ w15.toInt := t_lel (t_nlt h16) (by decide : (1000000000:Int) ≤ (1000000000:Int32).toInt)
        refine ev_loc f_X11_worth (nx := 27) rfl rfl rfl rfl ?_
        refine ev_bp f_X11_worth (nx := 29) (v := 6) rfl (by decide) rfl ?_
        refine ev_inV2 f_X11_worth (nx := 32) (lo2 := [(0, .ref 0), (1, .int 6)]) rfl rfl rfl rfl f_X11_refuse (hI.wf.s rfl) rfl rfl rfl rfl rfl ?_
        refine ev_loc f_X11_refuse (nx := 1) rfl rfl rfl rfl ?_
        refine ev_loc f_X11_refuse (nx := 2) rfl rfl rfl rfl ?_
        refine ev_putIT f_X11_refuse (nx := 5) rfl (hI.wf.s rfl) rfl rfl rfl (hI.put0 (hI.wf.s rfl) rfl rfl) (hX.upI rfl) (fun g24 e24 hI hX => ?_)
        refine ev_ic f_X11_refuse (nx := 6) (v := -1) rfl (by decide) rfl ?_
        refine ev_retK1 f_X11_refuse rfl rfl rfl ?_
        exact ev_ret f_X11_worth rfl rfl rfl ⟨_, _, _, rfl, hI, hX, ⟨_, rfl, (Int.le_trans (by decide : ((-2147483648):Int) ≤ (-1)) (by decide : ((-1):Int) ≤ ((-1):Int32).toInt)), (Int.le_trans (by decide : ((-1):Int32).toInt ≤ ((-1):Int)) (by decide : ((-1):Int) ≤ 2147483647)), (show ∀ (u : Nat) (D : s_D), gr 0 6 = .ref u → t_VL gr u → t_CV gi gl u D → t_Cb D → (u = 3 ∨ 102 ≤ u) → (∀ s : Nat, (s : Int) < D 1 → 0 ≤ D (56 + 5 * s) ∧ D (56 + 5 * s) ≤ 1) → s_DB D → ((0 ≤ ar1.toInt ∧ ar1.toInt < D 1 ∧ (s_LS (s_PD D (D 4)) 0 0 0 0) < 1000000000) → ((-1) : Int) = (s_LS (s_PD D (D 4)) 0 0 0 0) - s_wo D ar1.toNatClampNeg) ∧ (¬ (0 ≤ ar1.toInt ∧ ar1.toInt < D 1 ∧ (s_LS (s_PD D (D 4)) 0 0 0 0) < 1000000000) → ((-1) : Int) = -1) from (by
                                                            intro u D hu hl hc hb hv hsl hd
                                                            have ha : a5 = u := Value.ref.inj (e5.symm.trans hu)
                                                            subst ha
                                                            have hb1 : (a5 + 3) = a6 := Value.ref.inj ((hl.1.2.2.2.1).symm.trans e6)
                                                            subst hb1
                                                            have hL := hc.2.2.1.1
                                                            have hq := q14 D hl hc hv hb hsl
                                                            have hq2 := q15 _ hq.1 (s_PD_B hb hd ⟨hd.2.2.1.1, hd.2.2.1.2⟩) (s_PD_O hb hd hd.2.2.1.1)
                                                            exact ⟨fun h => absurd h.2.2 (by omega), fun _ => rfl⟩))⟩⟩
/-! ===== printed by riv.py: worth: the other side ===== -/
noncomputable def wl_e_worth : List (Nat × Nat) := [(69, 2), (69, 44), (69, 45), (69, 48), (89, 10005), (89, 610011), (90, 9999), (91, 9999), (92, 9999)]
noncomputable def Q_e_worth (gi : Nat → Nat → Int32) (gl : Nat → Nat → Int64) (gr : Nat → Nat → Value) (ar1 : Int32) : Int32 → (Nat → Nat → Int32) → (Nat → Nat → Int64) → (Nat → Nat → Value) → Prop := fun (v : Int32) (gi2 : Nat → Nat → Int32) (gl2 : Nat → Nat → Int64) (gr2 : Nat → Nat → Value) => ∀ D : s_D, t_ME 0 gi D → t_Cb D → s_DB D → (gi 69 46).toInt = -1 → ((0 ≤ ar1.toInt ∧ ar1.toInt < D 1 ∧ (s_LS (s_PD D (D 4)) 0 0 0 0) < 1000000000) → v.toInt = (s_LS (s_PD D (D 4)) 0 0 0 0) - s_wo D ar1.toNatClampNeg) ∧ (¬ (0 ≤ ar1.toInt ∧ ar1.toInt < D 1 ∧ (s_LS (s_PD D (D 4)) 0 0 0 0) < 1000000000) → v.toInt = -1)
theorem c_e_worth {X : x_Ext} {d : Nat} {sh : List (Nat ⊕ (Nat × Nat))} {gi : Nat → Nat → Int32} {gl : Nat → Nat → Int64} {gr : Nat → Nat → Value} (hI : t_I sh gi gr) (ar1 : Int32) (e_p0 : 1 ≤ (gi 70 4).toInt) : x_Me X (d + 6) n_X12_worth [.ref 69, .int ar1] (sh, gi, gl, gr) (t_PI wl_e_worth sh gi gl gr (-2147483648) 2147483647 (Q_e_worth gi gl gr ar1)) := by
  have hX : t_X wl_e_worth sh gi gl gr gi gl gr := t_X.rf
  refine me_i f_X12_worth (hI.wf.s rfl) rfl rfl rfl ?_
  obtain ⟨l2, u2⟩ := hI.ab (by decide +kernel : t_abr 70 4 4 0 20 = true) (Nat.le_refl _) (Nat.le_refl _)
  refine ev_loc f_X12_worth (nx := 1) rfl rfl rfl rfl ?_
  refine ev_loc f_X12_worth (nx := 2) rfl rfl rfl rfl ?_
  refine ev_inV2 f_X12_worth (nx := 5) (lo2 := [(0, .ref 69), (1, .int ar1)]) rfl rfl rfl rfl f_X12_isShip (hI.wf.s rfl) rfl rfl rfl rfl rfl ?_
  refine ev_loc f_X12_isShip (nx := 1) rfl rfl rfl rfl ?_
  refine ev_if f_X12_isShip (t1 := 18) (t2 := 4) rfl rfl rfl (fun h3 => ?_) (fun h3 => ?_)
  · have u4 : ar1.toInt ≤ (-1) := t_ltu h3 (by decide : (0:Int32).toInt ≤ (0:Int)) rfl
    refine ev_ic f_X12_isShip (nx := 19) (v := 0) rfl (by decide) rfl ?_
    refine ev_retK1 f_X12_isShip rfl rfl rfl ?_
    refine ev_t f_X12_worth (t1 := 8) (t2 := 14) rfl rfl rfl (by decide) ?_
    refine ev_loc f_X12_worth (nx := 9) rfl rfl rfl rfl ?_
    refine ev_ic f_X12_worth (nx := 10) (v := 1) rfl (by decide) rfl ?_
    refine ev_inV2 f_X12_worth (nx := 13) (lo2 := [(0, .ref 69), (1, .int 1)]) rfl rfl rfl rfl f_X12_refuse (hI.wf.s rfl) rfl rfl rfl rfl rfl ?_
    refine ev_loc f_X12_refuse (nx := 1) rfl rfl rfl rfl ?_
    refine ev_loc f_X12_refuse (nx := 2) rfl rfl rfl rfl ?_
    refine ev_putIT f_X12_refuse (nx := 5) rfl (hI.wf.s rfl) rfl rfl rfl (hI.put0 (hI.wf.s rfl) rfl rfl) (hX.upI rfl) (fun g5 e5 hI hX => ?_)
    refine ev_ic f_X12_refuse (nx := 6) (v := -1) rfl (by decide) rfl ?_
    refine ev_retK1 f_X12_refuse rfl rfl rfl ?_
    exact ev_ret f_X12_worth rfl rfl rfl ⟨_, _, _, rfl, hI, hX, ⟨_, rfl, (Int.le_trans (by decide : ((-2147483648):Int) ≤ (-1)) (by decide : ((-1):Int) ≤ ((-1):Int32).toInt)), (Int.le_trans (by decide : ((-1):Int32).toInt ≤ ((-1):Int)) (by decide : ((-1):Int) ≤ 2147483647)), (show ∀ D : s_D, t_ME 0 gi D → t_Cb D → s_DB D → (gi 69 46).toInt = -1 → ((0 ≤ ar1.toInt ∧ ar1.toInt < D 1 ∧ (s_LS (s_PD D (D 4)) 0 0 0 0) < 1000000000) → ((-1) : Int) = (s_LS (s_PD D (D 4)) 0 0 0 0) - s_wo D ar1.toNatClampNeg) ∧ (¬ (0 ≤ ar1.toInt ∧ ar1.toInt < D 1 ∧ (s_LS (s_PD D (D 4)) 0 0 0 0) < 1000000000) → ((-1) : Int) = -1) from (by
                                                            intro D hm hb hd h46
                                                            have ha : (gi 70 1).toInt = D 1 := hm.1.1.2.1
                                                            exact ⟨fun h => absurd (And.intro h.1 h.2.1) (by omega), fun _ => rfl⟩))⟩⟩
  · have l6 : 0 ≤ ar1.toInt := t_lel (t_nlt h3) (by decide : (0:Int) ≤ (0:Int32).toInt)
    refine ev_loc f_X12_isShip (nx := 5) rfl rfl rfl rfl ?_
    refine ev_loc f_X12_isShip (nx := 6) rfl rfl rfl rfl ?_
    refine ev_getR f_X12_isShip (nx := 9) rfl (hI.wf.s rfl) rfl rfl (hI.wf.r rfl) rfl rfl ?_
    refine ev_ic f_X12_isShip (nx := 10) (v := 1) rfl (by decide) rfl ?_
    obtain ⟨l7, u7⟩ := hI.ab (by decide +kernel : t_abr 70 1 1 0 6 = true) (Nat.le_refl _) (Nat.le_refl _)
    refine ev_ialdv f_X12_isShip (nx := 11) (w := (gi 70 1)) rfl (hI.wf.s rfl) (by decide) (rfl : (1 : Int32).toNatClampNeg = 1) (by decide) rfl rfl ?_
    refine ev_if f_X12_isShip (t1 := 18) (t2 := 14) rfl rfl rfl (fun h8 => ?_) (fun h8 => ?_)
    · have r9 : (gi 70 1).toInt ≤ ar1.toInt := Int32.le_iff_toInt_le.mp h8
      refine ev_ic f_X12_isShip (nx := 19) (v := 0) rfl (by decide) rfl ?_
      refine ev_retK1 f_X12_isShip rfl rfl rfl ?_
      refine ev_t f_X12_worth (t1 := 8) (t2 := 14) rfl rfl rfl (by decide) ?_
      refine ev_loc f_X12_worth (nx := 9) rfl rfl rfl rfl ?_
      refine ev_ic f_X12_worth (nx := 10) (v := 1) rfl (by decide) rfl ?_
      refine ev_inV2 f_X12_worth (nx := 13) (lo2 := [(0, .ref 69), (1, .int 1)]) rfl rfl rfl rfl f_X12_refuse (hI.wf.s rfl) rfl rfl rfl rfl rfl ?_
      refine ev_loc f_X12_refuse (nx := 1) rfl rfl rfl rfl ?_
      refine ev_loc f_X12_refuse (nx := 2) rfl rfl rfl rfl ?_
      refine ev_putIT f_X12_refuse (nx := 5) rfl (hI.wf.s rfl) rfl rfl rfl (hI.put0 (hI.wf.s rfl) rfl rfl) (hX.upI rfl) (fun g10 e10 hI hX => ?_)
      refine ev_ic f_X12_refuse (nx := 6) (v := -1) rfl (by decide) rfl ?_
      refine ev_retK1 f_X12_refuse rfl rfl rfl ?_
      exact ev_ret f_X12_worth rfl rfl rfl ⟨_, _, _, rfl, hI, hX, ⟨_, rfl, (Int.le_trans (by decide : ((-2147483648):Int) ≤ (-1)) (by decide : ((-1):Int) ≤ ((-1):Int32).toInt)), (Int.le_trans (by decide : ((-1):Int32).toInt ≤ ((-1):Int)) (by decide : ((-1):Int) ≤ 2147483647)), (show ∀ D : s_D, t_ME 0 gi D → t_Cb D → s_DB D → (gi 69 46).toInt = -1 → ((0 ≤ ar1.toInt ∧ ar1.toInt < D 1 ∧ (s_LS (s_PD D (D 4)) 0 0 0 0) < 1000000000) → ((-1) : Int) = (s_LS (s_PD D (D 4)) 0 0 0 0) - s_wo D ar1.toNatClampNeg) ∧ (¬ (0 ≤ ar1.toInt ∧ ar1.toInt < D 1 ∧ (s_LS (s_PD D (D 4)) 0 0 0 0) < 1000000000) → ((-1) : Int) = -1) from (by
                                                            intro D hm hb hd h46
                                                            have ha : (gi 70 1).toInt = D 1 := hm.1.1.2.1
                                                            exact ⟨fun h => absurd (And.intro h.1 h.2.1) (by omega), fun _ => rfl⟩))⟩⟩
    · have r11 : ar1.toInt < (gi 70 1).toInt := Int32.lt_iff_toInt_lt.mp (t_nle h8)
      have u12 : ar1.toInt ≤ 5 := t_ltu (t_nle h8) u7 rfl
      have l13 : 1 ≤ (gi 70 1).toInt := t_ltl (t_nle h8) l6 rfl
      refine ev_ic f_X12_isShip (nx := 15) (v := 1) rfl (by decide) rfl ?_
      refine ev_jmp f_X12_isShip (nx := 19) rfl rfl rfl ?_
      refine ev_retK1 f_X12_isShip rfl rfl rfl ?_
      refine ev_f f_X12_worth (t1 := 8) (t2 := 14) rfl rfl rfl (by decide) ?_
      refine ev_loc f_X12_worth (nx := 15) rfl rfl rfl rfl ?_
      refine ev_ic f_X12_worth (nx := 16) (v := 0) rfl (by decide) rfl ?_
      refine ev_loc f_X12_worth (nx := 17) rfl rfl rfl rfl ?_
      refine ev_getR f_X12_worth (nx := 20) rfl (hI.wf.s rfl) rfl rfl (hI.wf.r rfl) rfl rfl ?_
      refine ev_ic f_X12_worth (nx := 21) (v := 4) rfl (by decide) rfl ?_
      refine ev_ialdv f_X12_worth (nx := 22) (w := (gi 70 4)) rfl (hI.wf.s rfl) (by decide) (rfl : (4 : Int32).toNatClampNeg = 4) (by decide) rfl rfl ?_
      refine ev_qI f_X12_worth (nx := 25) (r := []) rfl rfl rfl rfl rfl rfl rfl (c_n_leastBy hI ((gi 70 4)) l2 u2 (by omega)) rfl hX rfl (fun w15 gi15 gl15 gr15 l15 u15 hI hX hC15 q15 => ?_)
      have q15 : ∀ D : s_D, t_ME 0 gi D → t_Cb D → s_DB D → (gi 69 46).toInt = -1 → w15.toInt = s_an (s_LS (s_PD D (gi 70 4).toInt) 0 0 0 0) := q15
      refine ev_loc f_X12_worth (nx := 26) (lo' := [(2, .int w15), (0, .ref 69), (1, .int ar1)]) rfl rfl rfl rfl ?_
      refine ev_loc f_X12_worth (nx := 27) rfl rfl rfl rfl ?_
      refine ev_ic f_X12_worth (nx := 28) (v := -1) rfl (by decide) rfl ?_
      refine ev_if f_X12_worth (t1 := 31) (t2 := 40) rfl rfl rfl (fun h16 => ?_) (fun h16 => ?_)
      · have u17 : w15.toInt ≤ (-1) := t_equ h16 (by decide : ((-1):Int32).toInt ≤ ((-1):Int))
        have l18 : (-1) ≤ w15.toInt := t_eql h16 (by decide : ((-1):Int) ≤ ((-1):Int32).toInt)
        refine ev_loc f_X12_worth (nx := 32) rfl rfl rfl rfl ?_
        refine ev_bp f_X12_worth (nx := 34) (v := 6) rfl (by decide) rfl ?_
        refine ev_inV2 f_X12_worth (nx := 37) (lo2 := [(0, .ref 69), (1, .int 6)]) rfl rfl rfl rfl f_X12_refuse (hI.wf.s rfl) rfl rfl rfl rfl rfl ?_
        refine ev_loc f_X12_refuse (nx := 1) rfl rfl rfl rfl ?_
        refine ev_loc f_X12_refuse (nx := 2) rfl rfl rfl rfl ?_
        refine ev_putIT f_X12_refuse (nx := 5) rfl (hI.wf.s rfl) rfl rfl rfl (hI.put0 (hI.wf.s rfl) rfl rfl) (hX.upI rfl) (fun g19 e19 hI hX => ?_)
        refine ev_ic f_X12_refuse (nx := 6) (v := -1) rfl (by decide) rfl ?_
        refine ev_retK1 f_X12_refuse rfl rfl rfl ?_
        refine ev_jmp f_X12_worth (nx := 59) rfl rfl rfl ?_
        exact ev_ret f_X12_worth rfl rfl rfl ⟨_, _, _, rfl, hI, hX, ⟨_, rfl, (Int.le_trans (by decide : ((-2147483648):Int) ≤ (-1)) (by decide : ((-1):Int) ≤ ((-1):Int32).toInt)), (Int.le_trans (by decide : ((-1):Int32).toInt ≤ ((-1):Int)) (by decide : ((-1):Int) ≤ 2147483647)), (show ∀ D : s_D, t_ME 0 gi D → t_Cb D → s_DB D → (gi 69 46).toInt = -1 → ((0 ≤ ar1.toInt ∧ ar1.toInt < D 1 ∧ (s_LS (s_PD D (D 4)) 0 0 0 0) < 1000000000) → ((-1) : Int) = (s_LS (s_PD D (D 4)) 0 0 0 0) - s_wo D ar1.toNatClampNeg) ∧ (¬ (0 ≤ ar1.toInt ∧ ar1.toInt < D 1 ∧ (s_LS (s_PD D (D 4)) 0 0 0 0) < 1000000000) → ((-1) : Int) = -1) from (by
                                                            intro D hm hb hd h46
                                                            have ha : (gi 70 1).toInt = D 1 := hm.1.1.2.1
                                                            have hq := q15 D hm hb hd h46
                                                            have h4 : (gi 70 4).toInt = D 4 := hm.1.2.1
                                                            rw [h4] at hq
                                                            have hl0 := s_LS_lo (s_PD_O (q := D 4) hb hd hd.2.2.1.1) 0 0 0 0
                                                            have hn0 := s_an_n hl0
                                                            rw [← hq] at hn0
                                                            have hn := hn0.mp (by omega)
                                                            exact ⟨fun h => absurd h.2.2 (by omega), fun _ => rfl⟩))⟩⟩
      · have r20 : w15.toInt ≠ (-1) := fun e => h16 (Int32.toInt_inj.mp (e.trans (by decide : ((-1):Int) = ((-1) : Int32).toInt)))
        refine ev_loc f_X12_worth (nx := 41) rfl rfl rfl rfl ?_
        have hXh := hX
        refine ev_loc f_X12_worth (nx := 42) rfl rfl rfl rfl ?_
        refine ev_loc f_X12_worth (nx := 43) rfl rfl rfl rfl ?_
        refine ev_ic f_X12_worth (nx := 44) (v := 1) rfl (by decide) rfl ?_
        refine ev_loc f_X12_worth (nx := 45) rfl rfl rfl rfl ?_
        refine ev_shl1E f_X12_worth (nx := 46) rfl l6 u12 (by decide) (by decide) rfl (fun z21 s21 => ?_)
        have l21 : 1 ≤ z21.toInt := by have := l6; have := u12; omega
        have u21 : z21.toInt ≤ 32 := by have := l6; have := u12; omega
        refine ev_loc f_X12_worth (nx := 47) rfl rfl rfl rfl ?_
        refine ev_getR f_X12_worth (nx := 50) rfl (hI.wf.s rfl) rfl rfl (hI.wf.r rfl) rfl rfl ?_
        refine ev_ic f_X12_worth (nx := 51) (v := 4) rfl (by decide) rfl ?_
        refine ev_ialdv f_X12_worth (nx := 52) (w := (gi 70 4)) rfl (hI.wf.s rfl) (by decide) (rfl : (4 : Int32).toNatClampNeg = 4) (by decide) ((hC15.1 70 4 rfl).1.trans rfl) rfl ?_
        refine ev_qI f_X12_worth (nx := 55) (r := [.int w15, .ref 69]) rfl rfl rfl rfl rfl rfl rfl (c_n_leastByG hI (z21) ((gi 70 4)) l2 u2 (by omega)) rfl hX rfl (fun w23 gi23 gl23 gr23 l23 u23 hI hX hC23 q23 => ?_)
        have ff24 : (gi15 69 46).toInt = (gi 69 46).toInt := congrArg Int32.toInt ((hC15.1 69 46 rfl).1.trans rfl)
        have q23 : ∀ D : s_D, t_ME 0 gi15 D → t_Cb D → s_DB D → w23.toInt = s_an (s_LS (s_PX D (gi 70 4).toInt (s_A D) z21 (gi15 69 46).toInt) 0 0 0 0) := q23
        refine ev_anyIE f_X12_worth (nx := 56) rfl rfl rfl rfl (fun z25 e25 => ?_)
        refine ev_inV2 f_X12_worth (nx := 59) (lo2 := [(0, .ref 69), (1, .int z25)]) rfl rfl rfl rfl f_X12_gives (hI.wf.s rfl) rfl rfl rfl rfl rfl ?_
        refine ev_loc f_X12_gives (nx := 1) rfl rfl rfl rfl ?_
        refine ev_ic f_X12_gives (nx := 2) (v := 0) rfl (by decide) rfl ?_
        refine ev_putIT f_X12_gives (nx := 5) rfl (hI.wf.s rfl) rfl rfl rfl (hI.put0 (hI.wf.s rfl) rfl rfl) (hX.upI rfl) (fun g26 e26 hI hX => ?_)
        refine ev_loc f_X12_gives (nx := 6) rfl rfl rfl rfl ?_
        refine ev_retK1 f_X12_gives rfl rfl rfl ?_
        exact ev_ret f_X12_worth rfl rfl rfl ⟨_, _, _, rfl, hI, hX, ⟨_, rfl, (t_lo z25), (t_hi z25), (show ∀ D : s_D, t_ME 0 gi D → t_Cb D → s_DB D → (gi 69 46).toInt = -1 → ((0 ≤ ar1.toInt ∧ ar1.toInt < D 1 ∧ (s_LS (s_PD D (D 4)) 0 0 0 0) < 1000000000) → z25.toInt = (s_LS (s_PD D (D 4)) 0 0 0 0) - s_wo D ar1.toNatClampNeg) ∧ (¬ (0 ≤ ar1.toInt ∧ ar1.toInt < D 1 ∧ (s_LS (s_PD D (D 4)) 0 0 0 0) < 1000000000) → z25.toInt = -1) from (by
                                                            intro D hm hb hd h46
                                                            have ha : (gi 70 1).toInt = D 1 := hm.1.1.2.1
                                                            have hq := q15 D hm hb hd h46
                                                            have h4 : (gi 70 4).toInt = D 4 := hm.1.2.1
                                                            rw [h4] at hq
                                                            have hl0 := s_LS_lo (s_PD_O (q := D 4) hb hd hd.2.2.1.1) 0 0 0 0
                                                            have hn0 := s_an_n hl0
                                                            rw [← hq] at hn0
                                                            have hlt : s_LS (s_PD D (D 4)) 0 0 0 0 < 1000000000 := Int.not_le.mp (fun h => absurd (hn0.mpr h) (by omega))
                                                            rw [s_an_v hlt] at hq
                                                            have fh := t_F_X hXh
                                                            have hmn : t_ME 0 gi15 D := hm.mv hb (fun j _ _ _ => congrFun (t_F_nc fh rfl (by decide)) (0 + j))
                                                            have hr := q23 D hmn hb hd
                                                            rw [show (gi15 69 46).toInt = -1 from (by rw [(fh 69 46 (by decide) rfl).1]; exact h46), show (gi 70 4).toInt = D 4 from h4, s_1sh ⟨by omega, by omega⟩ s21] at hr
                                                            have c1 := t_clamp (i := ar1) (by omega)
                                                            have hw := s_wo_le hb hd (i := ar1.toNatClampNeg) (by omega)
                                                            have hr2 : w23.toInt = s_an (s_wo D ar1.toNatClampNeg) := hr
                                                            rw [s_an_v (by omega)] at hr2
                                                            have hz := s_sub e25 hq hr2 (by omega)
                                                            exact ⟨fun _ => hz, fun h => absurd (show _ from ⟨by omega, by omega, hlt⟩) h⟩))⟩⟩
/-! ===== worth: the answers are alike ===== -/
section WRTL
variable {sh : List (Nat ⊕ (Nat × Nat))} {gi g1 g2 : Nat → Nat → Int32} {gl l1 l2 : Nat → Nat → Int64} {gr r1 r2 : Nat → Nat → Value} {w1 : List (Nat × Nat)} {A : Int32} {x1 x2 : Int32}
theorem t_L_worth (hI : t_I sh gi gr) (hD : t_DR sh.length gi gl gr) (f1 : t_F w1 gi gl gr g1 l1 r1) (h70 : t_nc w1 70 = true) (hN1 : (g1 69 46).toInt = -1) (h4 : 1 ≤ (g1 70 4).toInt) (q1 : Q_d_worth gi gl gr A x1 g1 l1 r1) (q2 : Q_e_worth g1 l1 r1 A x2 g2 l2 r2) : x1 = x2 := by
  obtain ⟨u, hu, D, hb, hv, hl, hc, hm⟩ := hD.1
  have r70 : g1 70 = gi 70 := t_F_nc f1 h70 (by decide)
  have hm2 : t_ME 0 g1 D := by unfold t_ME; rw [r70]; exact hm
  have hd : s_DB D := s_DB_of hI hm hb (by rw [← r70]; exact h4)
  have k1 := q1 u D hu hl hc hb hv.1 (t_D_sail hI hb hm) hd
  have k2 := q2 D hm2 hb hd hN1
  apply Int32.toInt_inj.mp
  by_cases hin : 0 ≤ A.toInt ∧ A.toInt < D 1 ∧ s_LS (s_PD D (D 4)) 0 0 0 0 < 1000000000
  · rw [k1.1 hin, k2.1 hin]
  · rw [k1.2 hin, k2.2 hin]
end WRTL
/-! ===== rows of numbers, one after another ===== -/
noncomputable abbrev s_RL : Type := List (Int × Int × Int)
noncomputable def s_RI (S : s_RL → Prop) (R T : s_RL) : Prop := ∃ L, S L ∧ L ++ R = T
section RLS
variable {S S2 : s_RL → Prop} {R R2 T : s_RL} {t : Int × Int × Int}
theorem s_RI.cg (h : s_RI S R T) (e : R = R2) : s_RI S R2 T := e ▸ h
theorem s_RI.mono (h : s_RI S R T) (e : ∀ L, S L → S2 L) : s_RI S2 R T := by
  obtain ⟨L, h1, h2⟩ := h
  exact ⟨L, e L h1, h2⟩
theorem s_RI.add (h : s_RI S R T) (e : R = t :: R2) (ea : ∀ L, S L → S2 (L ++ [t])) : s_RI S2 R2 T := by
  obtain ⟨L, h1, h2⟩ := h
  refine ⟨L ++ [t], ea L h1, ?_⟩
  rw [← h2, e, List.append_assoc]; rfl
theorem s_RI.nil (h : S []) (e : R = T) : s_RI S R T := ⟨[], h, e⟩
theorem s_RI.fin (h : s_RI S R T) (e : R = []) : S T := by
  obtain ⟨L, h1, h2⟩ := h
  rw [e, List.append_nil] at h2; exact h2 ▸ h1
theorem s_ap_get {L : s_RL} {t t' : Int × Int × Int} {k : Nat} (h : (L ++ [t])[k]? = some t') : (k < L.length ∧ L[k]? = some t') ∨ (k = L.length ∧ t' = t) := by
  by_cases hk : k < L.length
  · rw [List.getElem?_append_left hk] at h; exact Or.inl ⟨hk, h⟩
  · rw [List.getElem?_append_right (by omega)] at h
    by_cases hk2 : k = L.length
    · rw [show k - L.length = 0 by omega] at h
      exact Or.inr ⟨hk2, (Option.some.inj h).symm⟩
    · rw [show k - L.length = (k - L.length - 1) + 1 by omega] at h
      exact absurd h (by intro h2; cases h2)
end RLS
/-! ===== the READINGS of a number, one after another ===== -/
noncomputable def s_rE (D : s_D) (x : Int64) (a b : Int) : Nat → Int → s_RL
  | 0, _ => []
  | m + 1, e => s_if (s_bw D a b e = x) ((a, b, e) :: s_rE D x a b m (e + 1)) (s_rE D x a b m (e + 1))
noncomputable def s_rB (D : s_D) (x : Int64) (a : Int) : Nat → Int → s_RL
  | 0, _ => []
  | m + 1, b => s_rE D x a b (13 - s_lb a b).toNat (s_lb a b) ++ s_rB D x a m (b + 1)
noncomputable def s_rA (D : s_D) (x : Int64) : Nat → Int → s_RL
  | 0, _ => []
  | m + 1, a => s_rB D x a (D 0).toNat 0 ++ s_rA D x m (a + 1)
noncomputable def s_rP (D : s_D) (x : Int64) : Nat → Int → s_RL
  | 0, _ => []
  | m + 1, p => s_if (s_hd D p = x) ((p, -1, -1) :: s_rP D x m (p + 1)) (s_rP D x m (p + 1))
/-- all of them: the single ones, then the couples -/
noncomputable def s_rL (D : s_D) (x : Int64) : s_RL := s_rP D x (D 0).toNat 0 ++ s_rA D x (D 0).toNat 0
/-- what is still to come -/
noncomputable def s_R1 (D : s_D) (x : Int64) (p : Int) : s_RL := s_rP D x (D 0 - p).toNat p ++ s_rA D x (D 0).toNat 0
noncomputable def s_R2 (D : s_D) (x : Int64) (a : Int) : s_RL := s_rA D x (D 0 - a).toNat a
noncomputable def s_R3 (D : s_D) (x : Int64) (a b : Int) : s_RL := s_rB D x a (D 0 - b).toNat b ++ s_R2 D x (a + 1)
noncomputable def s_R4 (D : s_D) (x : Int64) (a b e : Int) : s_RL := s_rE D x a b (13 - e).toNat e ++ s_R3 D x a (b + 1)
section RDG
variable {D : s_D} {x : Int64} {a b e p : Int}
theorem s_R1_0 : s_R1 D x 0 = s_rL D x := by
  unfold s_R1 s_rL
  rw [show (D 0 - 0).toNat = (D 0).toNat by omega]
theorem s_R1_y (h : p < D 0) (hx : s_hd D p = x) : s_R1 D x p = (p, -1, -1) :: s_R1 D x (p + 1) := by
  unfold s_R1
  rw [show (D 0 - p).toNat = (D 0 - (p + 1)).toNat + 1 by omega]
  show s_if (s_hd D p = x) _ _ ++ _ = _
  rw [s_ifT hx]; rfl
theorem s_R1_n (h : p < D 0) (hx : ¬ s_hd D p = x) : s_R1 D x p = s_R1 D x (p + 1) := by
  unfold s_R1
  rw [show (D 0 - p).toNat = (D 0 - (p + 1)).toNat + 1 by omega]
  show s_if (s_hd D p = x) _ _ ++ _ = _
  rw [s_ifF hx]
theorem s_R1_e (h : D 0 ≤ p) : s_R1 D x p = s_R2 D x 0 := by
  unfold s_R1 s_R2
  rw [show (D 0 - p).toNat = 0 by omega, show (D 0 - 0).toNat = (D 0).toNat by omega]; rfl
theorem s_R2_s (h : a < D 0) : s_R2 D x a = s_R3 D x a 0 := by
  unfold s_R3 s_R2
  rw [show (D 0 - a).toNat = (D 0 - (a + 1)).toNat + 1 by omega, show (D 0 - 0).toNat = (D 0).toNat by omega]; rfl
theorem s_R2_e (h : D 0 ≤ a) : s_R2 D x a = [] := by
  unfold s_R2
  rw [show (D 0 - a).toNat = 0 by omega]; rfl
theorem s_R3_s (h : b < D 0) : s_R3 D x a b = s_R4 D x a b (s_lb a b) := by
  unfold s_R4 s_R3
  rw [show (D 0 - b).toNat = (D 0 - (b + 1)).toNat + 1 by omega]
  exact List.append_assoc _ _ _
theorem s_R3_e (h : D 0 ≤ b) : s_R3 D x a b = s_R2 D x (a + 1) := by
  unfold s_R3
  rw [show (D 0 - b).toNat = 0 by omega]; rfl
theorem s_R4_y (h : e ≤ 12) (hx : s_bw D a b e = x) : s_R4 D x a b e = (a, b, e) :: s_R4 D x a b (e + 1) := by
  unfold s_R4
  rw [show (13 - e).toNat = (13 - (e + 1)).toNat + 1 by omega]
  show s_if (s_bw D a b e = x) _ _ ++ _ = _
  rw [s_ifT hx]; rfl
theorem s_R4_n (h : e ≤ 12) (hx : ¬ s_bw D a b e = x) : s_R4 D x a b e = s_R4 D x a b (e + 1) := by
  unfold s_R4
  rw [show (13 - e).toNat = (13 - (e + 1)).toNat + 1 by omega]
  show s_if (s_bw D a b e = x) _ _ ++ _ = _
  rw [s_ifF hx]
theorem s_R4_e (h : 13 ≤ e) : s_R4 D x a b e = s_R3 D x a (b + 1) := by
  unfold s_R4
  rw [show (13 - e).toNat = 0 by omega]; rfl
end RDG
/-! ===== how they are kept ===== -/
noncomputable def s_a6 (b : Int) : Int := if b = -1 then 6 else b
noncomputable def s_a0 (b e : Int) : Int := if b = -1 then 0 else e
theorem s_a6_n {b : Int} (h : 0 ≤ b) : s_a6 b = b := if_neg (by omega)
theorem s_a0_n {b e : Int} (h : 0 ≤ b) : s_a0 b e = e := if_neg (by omega)
/-- by the class -/
noncomputable def s_S1 (g : Nat → Nat → Int32) (L : s_RL) : Prop := (g 0 14).toInt = (L.length : Int) ∧ ∀ (k : Nat) (t : Int × Int × Int), L[k]? = some t → (g 21 (3 * k)).toInt = t.1 ∧ (g 21 (3 * k + 1)).toInt = s_a6 t.2.1 ∧ (g 21 (3 * k + 2)).toInt = s_a0 t.2.1 t.2.2
/-- by the other side: while they are sought, and behind it -/
noncomputable def s_S2 (g : Nat → Nat → Int32) (L : s_RL) : Prop := (g 69 29).toInt = (L.length : Int) ∧ ∀ (k : Nat) (t : Int × Int × Int), L[k]? = some t → (g 78 k).toInt = t.1 ∧ (g 79 k).toInt = t.2.1 ∧ (g 80 k).toInt = t.2.2
noncomputable def s_S3 (g : Nat → Nat → Int32) (L : s_RL) : Prop := (g 69 30).toInt = (L.length : Int) ∧ ∀ (k : Nat) (t : Int × Int × Int), L[k]? = some t → (g 81 k).toInt = t.1 ∧ (g 82 k).toInt = t.2.1 ∧ (g 83 k).toInt = t.2.2
section KEP
variable {g g0 g1 g2 g3 g4 : Nat → Nat → Int32} {i1 i2 i3 a b c n : Int32} {L : s_RL} {t : Int × Int × Int}
theorem s_S1.cg (h : s_S1 g L) (e1 : g1 0 14 = g 0 14) (e2 : g1 21 = g 21) : s_S1 g1 L := by
  unfold s_S1; rw [e1, e2]; exact h
theorem s_S2.cg (h : s_S2 g L) (e1 : g1 69 29 = g 69 29) (e2 : g1 78 = g 78) (e3 : g1 79 = g 79) (e4 : g1 80 = g 80) : s_S2 g1 L := by
  unfold s_S2; rw [e1, e2, e3, e4]; exact h
theorem s_S3.cg (h : s_S3 g L) (e1 : g1 69 30 = g 69 30) (e2 : g1 81 = g 81) (e3 : g1 82 = g 82) (e4 : g1 83 = g 83) : s_S3 g1 L := by
  unfold s_S3; rw [e1, e2, e3, e4]; exact h
theorem s_S1_nil (h : (g 0 14).toInt = 0) : s_S1 g [] := ⟨h, fun k t hk => absurd hk (by intro h2; cases h2)⟩
theorem s_S2_nil (h : (g 69 29).toInt = 0) : s_S2 g [] := ⟨h, fun k t hk => absurd hk (by intro h2; cases h2)⟩
theorem s_S1_add (h : s_S1 g0 L) (e1 : g1 = x_up2 g0 21 i1.toNatClampNeg a) (e2 : g2 = x_up2 g1 21 i2.toNatClampNeg b) (e3 : g3 = x_up2 g2 21 i3.toNatClampNeg c) (e4 : g4 = x_up2 g3 0 14 n) (k1 : i1.toInt = 3 * (g0 0 14).toInt) (k2 : i2.toInt = 3 * (g0 0 14).toInt + 1) (k3 : i3.toInt = 3 * (g0 0 14).toInt + 2) (k4 : n.toInt = (g0 0 14).toInt + 1) (h1 : a.toInt = t.1) (h2 : b.toInt = s_a6 t.2.1) (h3 : c.toInt = s_a0 t.2.1 t.2.2) : s_S1 g4 (L ++ [t]) := by
  obtain ⟨hn, hl⟩ := h
  have c1 := t_clamp (i := i1) (by omega)
  have c2 := t_clamp (i := i2) (by omega)
  have c3 := t_clamp (i := i3) (by omega)
  have o21 : g4 21 = g3 21 := by rw [e4]; exact x_up2_ne (by decide)
  have q1 : g4 21 (3 * L.length) = a := by
    rw [o21, e3, x_up2_off (Or.inr (by omega)), e2, x_up2_off (Or.inr (by omega)), e1, show 3 * L.length = i1.toNatClampNeg by omega, x_up2_at]
  have q2 : g4 21 (3 * L.length + 1) = b := by
    rw [o21, e3, x_up2_off (Or.inr (by omega)), e2, show 3 * L.length + 1 = i2.toNatClampNeg by omega, x_up2_at]
  have q3 : g4 21 (3 * L.length + 2) = c := by
    rw [o21, e3, show 3 * L.length + 2 = i3.toNatClampNeg by omega, x_up2_at]
  have q4 : ∀ j, j < 3 * L.length → g4 21 j = g0 21 j := by
    intro j hj
    rw [o21, e3, x_up2_off (Or.inr (by omega)), e2, x_up2_off (Or.inr (by omega)), e1, x_up2_off (Or.inr (by omega))]
  refine ⟨by rw [e4, x_up2_at, List.length_append]; show _ = ((L.length + 1 : Nat) : Int); omega, fun k t' hk => ?_⟩
  rcases s_ap_get hk with ⟨k1, k2⟩ | ⟨k1, k2⟩
  · rw [q4 _ (by omega), q4 _ (by omega), q4 _ (by omega)]; exact hl k t' k2
  · subst k1; subst k2
    rw [q1, q2, q3]; exact ⟨h1, h2, h3⟩
theorem s_S2_add (h : s_S2 g0 L) (e1 : g1 = x_up2 g0 78 i1.toNatClampNeg a) (e2 : g2 = x_up2 g1 79 i1.toNatClampNeg b) (e3 : g3 = x_up2 g2 80 i1.toNatClampNeg c) (e4 : g4 = x_up2 g3 69 29 n) (k1 : i1.toInt = (g0 69 29).toInt) (k4 : n.toInt = (g0 69 29).toInt + 1) (h1 : a.toInt = t.1) (h2 : b.toInt = t.2.1) (h3 : c.toInt = t.2.2) : s_S2 g4 (L ++ [t]) := by
  obtain ⟨hn, hl⟩ := h
  have c1 := t_clamp (i := i1) (by omega)
  have d1 : ∀ j, g4 78 j = x_up2 g0 78 i1.toNatClampNeg a 78 j := fun j => by rw [e4, x_up2_off (Or.inl (by decide)), e3, x_up2_off (Or.inl (by decide)), e2, x_up2_off (Or.inl (by decide)), e1]
  have d2 : ∀ j, g4 79 j = x_up2 g1 79 i1.toNatClampNeg b 79 j := fun j => by rw [e4, x_up2_off (Or.inl (by decide)), e3, x_up2_off (Or.inl (by decide)), e2]
  have d3 : ∀ j, g4 80 j = x_up2 g2 80 i1.toNatClampNeg c 80 j := fun j => by rw [e4, x_up2_off (Or.inl (by decide)), e3]
  have o1 : ∀ j, g1 79 j = g0 79 j := fun j => by rw [e1, x_up2_off (Or.inl (by decide))]
  have o2 : ∀ j, g2 80 j = g0 80 j := fun j => by rw [e2, x_up2_off (Or.inl (by decide)), e1, x_up2_off (Or.inl (by decide))]
  refine ⟨by rw [e4, x_up2_at, List.length_append]; show _ = ((L.length + 1 : Nat) : Int); omega, fun k t' hk => ?_⟩
  rw [d1, d2, d3]
  rcases s_ap_get hk with ⟨k1, k2⟩ | ⟨k1, k2⟩
  · rw [x_up2_off (Or.inr (by omega)), x_up2_off (Or.inr (by omega)), x_up2_off (Or.inr (by omega)), o1, o2]; exact hl k t' k2
  · subst k2
    rw [show k = i1.toNatClampNeg by omega, x_up2_at, x_up2_at, x_up2_at]; exact ⟨h1, h2, h3⟩
theorem s_cp3 {y z : Int32} (h : ∀ k : Nat, (k : Int) < y.toInt → g0 81 k = g0 78 k ∧ g0 82 k = g0 79 k ∧ g0 83 k = g0 80 k) (e1 : g1 = x_up2 g0 81 y.toNatClampNeg a) (l1 : a = g0 78 y.toNatClampNeg) (e2 : g2 = x_up2 g1 82 y.toNatClampNeg b) (l2 : b = g1 79 y.toNatClampNeg) (e3 : g3 = x_up2 g2 83 y.toNatClampNeg c) (l3 : c = g2 80 y.toNatClampNeg) (h0 : 0 ≤ y.toInt) (hz : z.toInt = y.toInt + 1) : ∀ k : Nat, (k : Int) < z.toInt → g3 81 k = g3 78 k ∧ g3 82 k = g3 79 k ∧ g3 83 k = g3 80 k := by
  intro k hk
  have c1 := t_clamp (i := y) h0
  have o : ∀ q j, q ≠ 81 → q ≠ 82 → q ≠ 83 → g3 q j = g0 q j := fun q j a1 a2 a3 => by rw [e3, x_up2_off (Or.inl a3), e2, x_up2_off (Or.inl a2), e1, x_up2_off (Or.inl a1)]
  rw [o 78 k (by decide) (by decide) (by decide), o 79 k (by decide) (by decide) (by decide), o 80 k (by decide) (by decide) (by decide)]
  have d1 : g3 81 k = x_up2 g0 81 y.toNatClampNeg a 81 k := by rw [e3, x_up2_off (Or.inl (by decide)), e2, x_up2_off (Or.inl (by decide)), e1]
  have d2 : g3 82 k = x_up2 g1 82 y.toNatClampNeg b 82 k := by rw [e3, x_up2_off (Or.inl (by decide)), e2]
  have o2 : g1 82 k = g0 82 k := by rw [e1, x_up2_off (Or.inl (by decide))]
  have o3 : g2 83 k = g0 83 k := by rw [e2, x_up2_off (Or.inl (by decide)), e1, x_up2_off (Or.inl (by decide))]
  rw [d1, d2, e3]
  by_cases hy : k = y.toNatClampNeg
  · subst hy
    rw [x_up2_at, x_up2_at, x_up2_at]
    refine ⟨l1, ?_, ?_⟩
    · rw [l2, e1, x_up2_off (Or.inl (by decide))]
    · rw [l3, e2, x_up2_off (Or.inl (by decide)), e1, x_up2_off (Or.inl (by decide))]
  · rw [x_up2_off (Or.inr hy), x_up2_off (Or.inr hy), x_up2_off (Or.inr hy), o2, o3]
    exact h k (by omega)
/-- they are copied -/
theorem s_S3_of (h : s_S2 g0 L) (h1 : (g 69 30).toInt = (g0 69 29).toInt) (h2 : ∀ k : Nat, (k : Int) < (g0 69 29).toInt → g 81 k = g0 78 k ∧ g 82 k = g0 79 k ∧ g 83 k = g0 80 k) : s_S3 g L := by
  obtain ⟨hn, hl⟩ := h
  refine ⟨h1.trans hn, fun k t hk => ?_⟩
  have hk2 : k < L.length := by
    rcases Nat.lt_or_ge k L.length with h | h
    · exact h
    · rw [List.getElem?_eq_none h] at hk; cases hk
  obtain ⟨a1, a2, a3⟩ := h2 k (by omega)
  rw [a1, a2, a3]; exact hl k t hk
end KEP
/-- what is told of one: the first PORT, the second, the BEATS -/
noncomputable def s_rd (L : s_RL) (k : Nat) (w : Int) : Int := match L[k]? with
  | none => -1
  | some t => if w = 0 then t.1 else if w = 1 then t.2.1 else t.2.2
section TOLD
variable {g : Nat → Nat → Int32} {L : s_RL} {k : Nat} {v z : Int32}
theorem s_rd_g (h : k < L.length) : ∃ t, L[k]? = some t := ⟨L[k], List.getElem?_eq_getElem h⟩
theorem s_rd_0 {t : Int × Int × Int} (h : L[k]? = some t) : s_rd L k 0 = t.1 ∧ s_rd L k 1 = t.2.1 ∧ s_rd L k 2 = t.2.2 := by
  unfold s_rd; rw [h]; exact ⟨rfl, rfl, rfl⟩
end TOLD
noncomputable def s_tO (t : Int × Int × Int) : Prop := 0 ≤ t.1 ∧ ((t.2.1 = -1 ∧ t.2.2 = -1) ∨ (0 ≤ t.2.1 ∧ t.2.1 ≤ 5 ∧ 0 ≤ t.2.2))
noncomputable def s_LO (L : s_RL) : Prop := ∀ (k : Nat) (t : Int × Int × Int), L[k]? = some t → s_tO t
theorem s_6_y {t : Int × Int × Int} (h : s_tO t) (e : s_a6 t.2.1 = 6) : t.2.1 = -1 ∧ t.2.2 = -1 := by
  unfold s_a6 at e
  rcases h.2 with h | h
  · exact h
  · rw [if_neg (by omega)] at e; omega
theorem s_6_n {t : Int × Int × Int} (h : s_tO t) (e : ¬ s_a6 t.2.1 = 6) : s_a6 t.2.1 = t.2.1 ∧ s_a0 t.2.1 t.2.2 = t.2.2 := by
  rcases h.2 with h | h
  · exact absurd (by rw [h.1]; rfl) e
  · exact ⟨s_a6_n h.1, s_a0_n h.1⟩
/-! ===== printed by riv.py: READINGS: the class ===== -/
noncomputable def wl_d_addReading : List (Nat × Nat) := [(0, 14), (21, 9999)]
noncomputable def Q_d_addReading (gi : Nat → Nat → Int32) (gl : Nat → Nat → Int64) (gr : Nat → Nat → Value) (ar1 : Int32) (ar2 : Int32) (ar3 : Int32) : (Nat → Nat → Int32) → (Nat → Nat → Int64) → (Nat → Nat → Value) → Prop := fun (gi2 : Nat → Nat → Int32) (gl2 : Nat → Nat → Int64) (gr2 : Nat → Nat → Value) => (gi2 0 14).toInt ≤ (gi 0 14).toInt + 1 ∧ (∀ (L : s_RL) (t : Int × Int × Int), s_S1 gi L → (gi 0 14).toInt < 474 → ar1.toInt = t.1 → ar2.toInt = s_a6 t.2.1 → ar3.toInt = s_a0 t.2.1 t.2.2 → s_S1 gi2 (L ++ [t]))
theorem c_d_addReading {X : x_Ext} {d : Nat} {sh : List (Nat ⊕ (Nat × Nat))} {gi : Nat → Nat → Int32} {gl : Nat → Nat → Int64} {gr : Nat → Nat → Value} (hI : t_I sh gi gr) (ar1 : Int32) (ar2 : Int32) (ar3 : Int32) : x_Me X (d + 1) n_X11_addReading [.ref 0, .int ar1, .int ar2, .int ar3] (sh, gi, gl, gr) (t_PN wl_d_addReading sh gi gl gr (Q_d_addReading gi gl gr ar1 ar2 ar3)) := by
  have hX : t_X wl_d_addReading sh gi gl gr gi gl gr := t_X.rf
  refine me_i f_X11_addReading (hI.wf.s rfl) rfl rfl rfl ?_
  obtain ⟨l1, u1⟩ := hI.b (hI.wf.s (k := 0) rfl) (t_bdK rfl : t_bd 10 14 = some (0, 474))
  refine ev_loc f_X11_addReading (nx := 1) rfl rfl rfl rfl ?_
  refine ev_gvI f_X11_addReading (nx := 4) (w := (gi 0 14)) rfl (hI.wf.s rfl) rfl rfl rfl rfl ?_
  refine ev_sp f_X11_addReading (nx := 7) (v := 474) rfl (by decide) rfl ?_
  refine ev_if f_X11_addReading (t1 := 60) (t2 := 10) rfl rfl rfl (fun h2 => ?_) (fun h2 => ?_)
  · have l3 : 474 ≤ (gi 0 14).toInt := t_lel h2 (by decide : (474:Int) ≤ (474:Int32).toInt)
    exact ev_ret f_X11_addReading rfl rfl rfl ⟨_, _, _, rfl, hI, hX, ⟨rfl, (show (gi 0 14).toInt ≤ (gi 0 14).toInt + 1 ∧ (∀ (L : s_RL) (t : Int × Int × Int), s_S1 gi L → (gi 0 14).toInt < 474 → ar1.toInt = t.1 → ar2.toInt = s_a6 t.2.1 → ar3.toInt = s_a0 t.2.1 t.2.2 → s_S1 gi (L ++ [t])) from (by
                                                            refine ⟨by omega, ?_⟩
                                                            intro L t h hk h1 h2 h3
                                                            exact absurd hk (by omega)))⟩⟩
  · have u4 : (gi 0 14).toInt ≤ 473 := t_ltu (t_nle h2) (by decide : (474:Int32).toInt ≤ (474:Int)) rfl
    refine ev_loc f_X11_addReading (nx := 11) rfl rfl rfl rfl ?_
    refine ev_getR f_X11_addReading (nx := 14) rfl (hI.wf.s rfl) rfl rfl (hI.wf.r rfl) rfl rfl ?_
    refine ev_ic f_X11_addReading (nx := 15) (v := 3) rfl (by decide) rfl ?_
    refine ev_loc f_X11_addReading (nx := 16) rfl rfl rfl rfl ?_
    refine ev_gvI f_X11_addReading (nx := 19) (w := (gi 0 14)) rfl (hI.wf.s rfl) rfl rfl rfl rfl ?_
    refine ev_mulL f_X11_addReading (nx := 20) (c := 3) (l := 0) (u := 1419) rfl (by decide) (by decide) l1 u4 rfl rfl (by decide) (by decide) rfl (fun z5 e5 l5 u5 => ?_)
    refine ev_loc f_X11_addReading (nx := 21) rfl rfl rfl rfl ?_
    refine ev_iastT f_X11_addReading (nx := 22) rfl (hI.wf.s rfl) l5 (by decide) u5 (by decide) rfl (hI.astO (hI.wf.s rfl) (Or.inl (by decide)) (by decide +kernel)) (hX.upI (t_inA_ok rfl)) (fun g6 e6 hI hX => ?_)
    refine ev_loc f_X11_addReading (nx := 23) rfl rfl rfl rfl ?_
    refine ev_getR f_X11_addReading (nx := 26) rfl (hI.wf.s rfl) rfl rfl (hI.wf.r rfl) rfl rfl ?_
    refine ev_ic f_X11_addReading (nx := 27) (v := 3) rfl (by decide) rfl ?_
    refine ev_loc f_X11_addReading (nx := 28) rfl rfl rfl rfl ?_
    refine ev_gvI f_X11_addReading (nx := 31) (w := (gi 0 14)) rfl (hI.wf.s rfl) rfl rfl ((by rw [e6]; exact x_up2_off (Or.inl (by decide)) : g6 0 14 = gi 0 14).trans rfl) rfl ?_
    refine ev_mulL f_X11_addReading (nx := 32) (c := 3) (l := 0) (u := 1419) rfl (by decide) (by decide) l1 u4 rfl rfl (by decide) (by decide) rfl (fun z7 e7 l7 u7 => ?_)
    refine ev_ic f_X11_addReading (nx := 33) (v := 1) rfl (by decide) rfl ?_
    refine ev_addC f_X11_addReading (nx := 34) (c := 1) (l := 1) (u := 1420) rfl (by decide) l7 u7 rfl rfl (by decide) (by decide) rfl (fun z8 e8 l8 u8 => ?_)
    refine ev_loc f_X11_addReading (nx := 35) rfl rfl rfl rfl ?_
    refine ev_iastT f_X11_addReading (nx := 36) rfl (hI.wf.s rfl) l8 (by decide) u8 (by decide) rfl (hI.astO (hI.wf.s rfl) (Or.inl (by decide)) (by decide +kernel)) (hX.upI (t_inA_ok rfl)) (fun g9 e9 hI hX => ?_)
    refine ev_loc f_X11_addReading (nx := 37) rfl rfl rfl rfl ?_
    refine ev_getR f_X11_addReading (nx := 40) rfl (hI.wf.s rfl) rfl rfl (hI.wf.r rfl) rfl rfl ?_
    refine ev_ic f_X11_addReading (nx := 41) (v := 3) rfl (by decide) rfl ?_
    refine ev_loc f_X11_addReading (nx := 42) rfl rfl rfl rfl ?_
    refine ev_gvI f_X11_addReading (nx := 45) (w := (gi 0 14)) rfl (hI.wf.s rfl) rfl rfl ((by rw [e9]; exact x_up2_off (Or.inl (by decide)) : g9 0 14 = g6 0 14).trans ((by rw [e6]; exact x_up2_off (Or.inl (by decide)) : g6 0 14 = gi 0 14).trans rfl)) rfl ?_
    refine ev_mulL f_X11_addReading (nx := 46) (c := 3) (l := 0) (u := 1419) rfl (by decide) (by decide) l1 u4 rfl rfl (by decide) (by decide) rfl (fun z10 e10 l10 u10 => ?_)
    refine ev_ic f_X11_addReading (nx := 47) (v := 2) rfl (by decide) rfl ?_
    refine ev_addC f_X11_addReading (nx := 48) (c := 2) (l := 2) (u := 1421) rfl (by decide) l10 u10 rfl rfl (by decide) (by decide) rfl (fun z11 e11 l11 u11 => ?_)
    refine ev_loc f_X11_addReading (nx := 49) rfl rfl rfl rfl ?_
    refine ev_iastT f_X11_addReading (nx := 50) rfl (hI.wf.s rfl) l11 (by decide) u11 (by decide) rfl (hI.astO (hI.wf.s rfl) (Or.inl (by decide)) (by decide +kernel)) (hX.upI (t_inA_ok rfl)) (fun g12 e12 hI hX => ?_)
    refine ev_loc f_X11_addReading (nx := 51) rfl rfl rfl rfl ?_
    refine ev_alu f_X11_addReading (nx := 52) rfl rfl rfl rfl ?_
    refine ev_gvI f_X11_addReading (nx := 55) (w := (gi 0 14)) rfl (hI.wf.s rfl) rfl rfl ((by rw [e12]; exact x_up2_off (Or.inl (by decide)) : g12 0 14 = g9 0 14).trans ((by rw [e9]; exact x_up2_off (Or.inl (by decide)) : g9 0 14 = g6 0 14).trans ((by rw [e6]; exact x_up2_off (Or.inl (by decide)) : g6 0 14 = gi 0 14).trans rfl))) rfl ?_
    refine ev_ic f_X11_addReading (nx := 56) (v := 1) rfl (by decide) rfl ?_
    refine ev_addC f_X11_addReading (nx := 57) (c := 1) (l := 1) (u := 474) rfl (by decide) l1 u4 rfl rfl (by decide) (by decide) rfl (fun z13 e13 l13 u13 => ?_)
    refine ev_putIT f_X11_addReading (nx := 60) rfl (hI.wf.s rfl) rfl rfl rfl (hI.putB (hI.wf.s rfl) rfl rfl l13 (by decide) u13 (by decide)) (hX.upI rfl) (fun g14 e14 hI hX => ?_)
    exact ev_ret f_X11_addReading rfl rfl rfl ⟨_, _, _, rfl, hI, hX, ⟨rfl, (show (g14 0 14).toInt ≤ (gi 0 14).toInt + 1 ∧ (∀ (L : s_RL) (t : Int × Int × Int), s_S1 gi L → (gi 0 14).toInt < 474 → ar1.toInt = t.1 → ar2.toInt = s_a6 t.2.1 → ar3.toInt = s_a0 t.2.1 t.2.2 → s_S1 g14 (L ++ [t])) from (by
                                                            refine ⟨by have ff15 : (g14 0 14).toInt = z13.toInt := congrArg Int32.toInt (by rw [e14]; exact x_up2_at _ _ _ _ : g14 0 14 = z13); omega, ?_⟩
                                                            intro L t h hk h1 h2 h3
                                                            exact s_S1_add h e6 e9 e12 e14 (by omega) (by omega) (by omega) (by omega) h1 h2 h3))⟩⟩
noncomputable def wl_d_readings : List (Nat × Nat) := [(0, 0), (0, 14), (21, 9999)]
noncomputable def Q_d_readings (gi : Nat → Nat → Int32) (gl : Nat → Nat → Int64) (gr : Nat → Nat → Value) (ar1 : Int64) : Int32 → (Nat → Nat → Int32) → (Nat → Nat → Int64) → (Nat → Nat → Value) → Prop := fun (v : Int32) (gi2 : Nat → Nat → Int32) (gl2 : Nat → Nat → Int64) (gr2 : Nat → Nat → Value) => (∀ (u : Nat) (D : s_D), gr 0 6 = .ref u → t_VL gr u → t_CV gi gl u D → t_Cb D → (u = 3 ∨ 102 ≤ u) → (1 ≤ ar1.toInt → s_S1 gi2 (s_rL D ar1) ∧ v.toInt = ((s_rL D ar1).length : Int)) ∧ (ar1.toInt < 1 → v.toInt = -1 ∧ ∀ L, s_S1 gi L → s_S1 gi2 L))
theorem c_d_readings {X : x_Ext} {d : Nat} {sh : List (Nat ⊕ (Nat × Nat))} {gi : Nat → Nat → Int32} {gl : Nat → Nat → Int64} {gr : Nat → Nat → Value} (hI : t_I sh gi gr) (ar1 : Int64) : x_Me X (d + 4) n_X11_readings [.ref 0, .long ar1] (sh, gi, gl, gr) (t_PI wl_d_readings sh gi gl gr (-1) 474 (Q_d_readings gi gl gr ar1)) := by
  have hX : t_X wl_d_readings sh gi gl gr gi gl gr := t_X.rf
  refine me_i f_X11_readings (hI.wf.s rfl) rfl rfl rfl ?_
  obtain ⟨l1, u1⟩ := hI.b (hI.wf.s (k := 0) rfl) (t_bdK rfl : t_bd 10 14 = some (0, 474))
  refine ev_loc f_X11_readings (nx := 1) rfl rfl rfl rfl ?_
  refine ev_lc f_X11_readings (nx := 2) (v := 1) rfl (by decide) rfl ?_
  refine ev_anyIE f_X11_readings (nx := 3) rfl rfl rfl rfl (fun z2 e2 => ?_)
  refine ev_if f_X11_readings (t1 := 12) (t2 := 6) rfl rfl rfl (fun h3 => ?_) (fun h3 => ?_)
  · have l4 : 0 ≤ z2.toInt := t_lel h3 (by decide : (0:Int) ≤ (0:Int32).toInt)
    refine ev_loc f_X11_readings (nx := 13) rfl rfl rfl rfl ?_
    have hlt := (t_lt1r e2 h3)
    refine ev_ic f_X11_readings (nx := 14) (v := 0) rfl (by decide) rfl ?_
    refine ev_putIT f_X11_readings (nx := 17) rfl (hI.wf.s rfl) rfl rfl rfl (hI.putB (hI.wf.s rfl) rfl rfl (by decide : (0:Int) ≤ (0:Int32).toInt) (by decide) (by decide : (0:Int32).toInt ≤ (0:Int)) (by decide)) (hX.upI rfl) (fun g5 e5 hI hX => ?_)
    refine ev_ic f_X11_readings (nx := 18) (v := 0) rfl (by decide) rfl ?_
    refine ev_loc f_X11_readings (nx := 19) (lo' := [(3, .int 0), (0, .ref 0), (1, .long ar1)]) rfl rfl rfl rfl ?_
    have L6 : ∀ (m6 : Nat) (gi6 : Nat → Nat → Int32) (gl6 : Nat → Nat → Int64) (gr6 : Nat → Nat → Value) (y6_3 : Int32), t_I sh gi6 gr6 → t_X wl_d_readings sh gi gl gr gi6 gl6 gr6 → 0 ≤ y6_3.toInt → y6_3.toInt ≤ 6 → (gi6 0 14).toInt ≤ y6_3.toInt → (∀ (u : Nat) (D : s_D), gr 0 6 = .ref u → t_VL gr u → t_CV gi gl u D → t_Cb D → (u = 3 ∨ 102 ≤ u) → s_RI (s_S1 gi6) (s_R1 D ar1 y6_3.toInt) (s_rL D ar1)) → (6 - y6_3.toInt).toNat = m6 → x_Ev X (d + 4) n_X11_readings 19 [(3, .int y6_3), (0, .ref 0), (1, .long ar1)] [] (sh, gi6, gl6, gr6) (t_PI wl_d_readings sh gi gl gr (-1) 474 (Q_d_readings gi gl gr ar1)) := by
      intro m6
      induction m6 using Nat.strongRecOn with
      | _ m6 ih6 =>
      intro gi6 gl6 gr6 y6_3 hI hX l6_3 u6_3 j6_0 j6_1 hm6
      obtain ⟨l7, u7⟩ := hI.b (hI.wf.s (k := 0) rfl) (t_bdK rfl : t_bd 10 14 = some (0, 474))
      refine ev_loc f_X11_readings (nx := 20) rfl rfl rfl rfl ?_
      have hX19 := hX
      refine ev_loc f_X11_readings (nx := 21) rfl rfl rfl rfl ?_
      obtain ⟨a8, e8, p8⟩ := hI.2.2.2.1.1
      refine ev_getR f_X11_readings (nx := 24) rfl (hI.wf.s rfl) rfl rfl e8 rfl rfl ?_
      refine ev_getI f_X11_readings (nx := 27) rfl p8.1 rfl rfl rfl ?_
      obtain ⟨l9, u9⟩ := hI.b p8.1 (t_bdK rfl : t_bd 4 0 = some (0, 6))
      refine ev_if f_X11_readings (t1 := 57) (t2 := 30) rfl rfl rfl (fun h10 => ?_) (fun h10 => ?_)
      · have r11 : (gi6 a8 0).toInt ≤ y6_3.toInt := Int32.le_iff_toInt_le.mp h10
        refine ev_ic f_X11_readings (nx := 58) (v := 0) rfl (by decide) rfl ?_
        refine ev_loc f_X11_readings (nx := 59) (lo' := [(3, .int 0), (0, .ref 0), (1, .long ar1)]) rfl rfl rfl rfl ?_
        have L12 : ∀ (m12 : Nat) (gi12 : Nat → Nat → Int32) (gl12 : Nat → Nat → Int64) (gr12 : Nat → Nat → Value) (y12_3 : Int32), t_I sh gi12 gr12 → t_X wl_d_readings sh gi gl gr gi12 gl12 gr12 → 0 ≤ y12_3.toInt → y12_3.toInt ≤ 6 → (gi12 0 14).toInt ≤ 6 + 78 * y12_3.toInt → (∀ (u : Nat) (D : s_D), gr 0 6 = .ref u → t_VL gr u → t_CV gi gl u D → t_Cb D → (u = 3 ∨ 102 ≤ u) → s_RI (s_S1 gi12) (s_R2 D ar1 y12_3.toInt) (s_rL D ar1)) → (6 - y12_3.toInt).toNat = m12 → x_Ev X (d + 4) n_X11_readings 59 [(3, .int y12_3), (0, .ref 0), (1, .long ar1)] [] (sh, gi12, gl12, gr12) (t_PI wl_d_readings sh gi gl gr (-1) 474 (Q_d_readings gi gl gr ar1)) := by
          intro m12
          induction m12 using Nat.strongRecOn with
          | _ m12 ih12 =>
          intro gi12 gl12 gr12 y12_3 hI hX l12_3 u12_3 j12_0 j12_1 hm12
          obtain ⟨l13, u13⟩ := hI.b (hI.wf.s (k := 0) rfl) (t_bdK rfl : t_bd 10 14 = some (0, 474))
          refine ev_loc f_X11_readings (nx := 60) rfl rfl rfl rfl ?_
          have hX59 := hX
          refine ev_loc f_X11_readings (nx := 61) rfl rfl rfl rfl ?_
          obtain ⟨a14, e14, p14⟩ := hI.2.2.2.1.1
          refine ev_getR f_X11_readings (nx := 64) rfl (hI.wf.s rfl) rfl rfl e14 rfl rfl ?_
          refine ev_getI f_X11_readings (nx := 67) rfl p14.1 rfl rfl rfl ?_
          obtain ⟨l15, u15⟩ := hI.b p14.1 (t_bdK rfl : t_bd 4 0 = some (0, 6))
          refine ev_if f_X11_readings (t1 := 148) (t2 := 70) rfl rfl rfl (fun h16 => ?_) (fun h16 => ?_)
          · have r17 : (gi12 a14 0).toInt ≤ y12_3.toInt := Int32.le_iff_toInt_le.mp h16
            refine ev_loc f_X11_readings (nx := 149) rfl rfl rfl rfl ?_
            refine ev_loc f_X11_readings (nx := 150) rfl rfl rfl rfl ?_
            refine ev_gvI f_X11_readings (nx := 153) (w := (gi12 0 14)) rfl (hI.wf.s rfl) rfl rfl rfl rfl ?_
            refine ev_inV2 f_X11_readings (nx := 156) (lo2 := [(0, .ref 0), (1, .int (gi12 0 14))]) rfl rfl rfl rfl f_X11_answer (hI.wf.s rfl) rfl rfl rfl rfl rfl ?_
            refine ev_loc f_X11_answer (nx := 1) rfl rfl rfl rfl ?_
            refine ev_ic f_X11_answer (nx := 2) (v := 0) rfl (by decide) rfl ?_
            refine ev_putIT f_X11_answer (nx := 5) rfl (hI.wf.s rfl) rfl rfl rfl (hI.put0 (hI.wf.s rfl) rfl rfl) (hX.upI rfl) (fun g18 e18 hI hX => ?_)
            refine ev_loc f_X11_answer (nx := 6) rfl rfl rfl rfl ?_
            refine ev_retK1 f_X11_answer rfl rfl rfl ?_
            exact ev_ret f_X11_readings rfl rfl rfl ⟨_, _, _, rfl, hI, hX, ⟨_, rfl, (Int.le_trans (by decide : ((-1):Int) ≤ 0) l13), u13, (show (∀ (u : Nat) (D : s_D), gr 0 6 = .ref u → t_VL gr u → t_CV gi gl u D → t_Cb D → (u = 3 ∨ 102 ≤ u) → (1 ≤ ar1.toInt → s_S1 g18 (s_rL D ar1) ∧ (gi12 0 14).toInt = ((s_rL D ar1).length : Int)) ∧ (ar1.toInt < 1 → (gi12 0 14).toInt = -1 ∧ ∀ L, s_S1 gi L → s_S1 g18 L)) from (by
                                                            intro u D hu hl hc hb hv
                                                            have g1 := j12_1 u D hu hl hc hb hv
                                                            have hun : gr12 0 6 = .ref u := ((t_F_X hX59) 0 6 (by decide) rfl).2.2.trans hu
                                                            have hKh := t_nd_fr hX59 rfl
                                                            have hlh := hl.fr (fun K k1 k2 => hKh K (by omega))
                                                            have hch := hc.fr (fun K k1 k2 => hKh K (by omega))
                                                            have ha : a14 = u := Value.ref.inj ((e14).symm.trans hun)
                                                            subst ha
                                                            have hm := hch.1.1
                                                            have h1 := hlt
                                                            have g2 := g1.fin (s_R2_e (by omega))
                                                            exact ⟨fun _ => ⟨g2.cg (by rw [e18]; exact x_up2_off (Or.inr (by decide))) (by rw [e18]; exact x_up2_ne (by decide)), g2.1⟩, fun h => absurd h (by omega)⟩))⟩⟩
          · have r19 : y12_3.toInt < (gi12 a14 0).toInt := Int32.lt_iff_toInt_lt.mp (t_nle h16)
            have u20 : y12_3.toInt ≤ 5 := t_ltu (t_nle h16) u15 rfl
            have l21 : 1 ≤ (gi12 a14 0).toInt := t_ltl (t_nle h16) l12_3 rfl
            refine ev_ic f_X11_readings (nx := 71) (v := 0) rfl (by decide) rfl ?_
            refine ev_loc f_X11_readings (nx := 73) (lo' := [(4, .int 0), (3, .int y12_3), (0, .ref 0), (1, .long ar1)]) rfl rfl rfl rfl ?_
            have L22 : ∀ (m22 : Nat) (gi22 : Nat → Nat → Int32) (gl22 : Nat → Nat → Int64) (gr22 : Nat → Nat → Value) (y22_4 : Int32), t_I sh gi22 gr22 → t_X wl_d_readings sh gi gl gr gi22 gl22 gr22 → 0 ≤ y22_4.toInt → y22_4.toInt ≤ 6 → (gi22 0 14).toInt ≤ 6 + 78 * y12_3.toInt + 13 * y22_4.toInt → (∀ (u : Nat) (D : s_D), gr 0 6 = .ref u → t_VL gr u → t_CV gi gl u D → t_Cb D → (u = 3 ∨ 102 ≤ u) → s_RI (s_S1 gi22) (s_R3 D ar1 y12_3.toInt y22_4.toInt) (s_rL D ar1) ∧ y12_3.toInt < D 0) → (6 - y22_4.toInt).toNat = m22 → x_Ev X (d + 4) n_X11_readings 73 [(4, .int y22_4), (3, .int y12_3), (0, .ref 0), (1, .long ar1)] [] (sh, gi22, gl22, gr22) (t_PI wl_d_readings sh gi gl gr (-1) 474 (Q_d_readings gi gl gr ar1)) := by
              intro m22
              induction m22 using Nat.strongRecOn with
              | _ m22 ih22 =>
              intro gi22 gl22 gr22 y22_4 hI hX l22_4 u22_4 j22_0 j22_1 hm22
              obtain ⟨l23, u23⟩ := hI.b (hI.wf.s (k := 0) rfl) (t_bdK rfl : t_bd 10 14 = some (0, 474))
              refine ev_loc f_X11_readings (nx := 75) rfl rfl rfl rfl ?_
              have hX73 := hX
              refine ev_loc f_X11_readings (nx := 76) rfl rfl rfl rfl ?_
              obtain ⟨a24, e24, p24⟩ := hI.2.2.2.1.1
              refine ev_getR f_X11_readings (nx := 79) rfl (hI.wf.s rfl) rfl rfl e24 rfl rfl ?_
              refine ev_getI f_X11_readings (nx := 82) rfl p24.1 rfl rfl rfl ?_
              obtain ⟨l25, u25⟩ := hI.b p24.1 (t_bdK rfl : t_bd 4 0 = some (0, 6))
              refine ev_if f_X11_readings (t1 := 142) (t2 := 85) rfl rfl rfl (fun h26 => ?_) (fun h26 => ?_)
              · have r27 : (gi22 a24 0).toInt ≤ y22_4.toInt := Int32.le_iff_toInt_le.mp h26
                refine ev_incR f_X11_readings (nx := 145) (c := 1) (l := 1) (u := 6) rfl rfl (by decide) (by decide) l12_3 u20 rfl rfl (by decide) (by decide) rfl (fun z28 e28 l28 u28 => ?_)
                refine ev_jmp f_X11_readings (nx := 59) rfl rfl rfl ?_
                refine ev_sub (lo := [(3, .int z28), (0, .ref 0), (1, .long ar1)]) rfl (t_sc rfl (t_sc rfl (t_sc rfl t_sn))) ?_
                exact ih12 _ (by omega) gi22 gl22 gr22 (z28) hI hX  (Int.le_trans (by decide : (0:Int) ≤ 1) l28) u28 (by omega) (by
                                                            intro u D hu hl hc hb hv
                                                            obtain ⟨g1, g2⟩ := j22_1 u D hu hl hc hb hv
                                                            have hun : gr22 0 6 = .ref u := ((t_F_X hX73) 0 6 (by decide) rfl).2.2.trans hu
                                                            have hKh := t_nd_fr hX73 rfl
                                                            have hlh := hl.fr (fun K k1 k2 => hKh K (by omega))
                                                            have hch := hc.fr (fun K k1 k2 => hKh K (by omega))
                                                            have ha : a24 = u := Value.ref.inj ((e24).symm.trans hun)
                                                            subst ha
                                                            have hm := hch.1.1
                                                            exact g1.cg ((s_R3_e (by omega)).trans (by rw [show z28.toInt = y12_3.toInt + 1 by omega]))) rfl
              · have r29 : y22_4.toInt < (gi22 a24 0).toInt := Int32.lt_iff_toInt_lt.mp (t_nle h26)
                have u30 : y22_4.toInt ≤ 5 := t_ltu (t_nle h26) u25 rfl
                have l31 : 1 ≤ (gi22 a24 0).toInt := t_ltl (t_nle h26) l22_4 rfl
                refine ev_loc f_X11_readings (nx := 86) rfl rfl rfl rfl ?_
                refine ev_getR f_X11_readings (nx := 89) (v := .ref a24) rfl (hI.wf.s rfl) rfl rfl e24 rfl rfl ?_
                refine ev_loc f_X11_readings (nx := 90) rfl rfl rfl rfl ?_
                refine ev_loc f_X11_readings (nx := 92) rfl rfl rfl rfl ?_
                refine ev_inV3 f_X11_readings (nx := 95) (lo2 := [(0, .ref a24), (1, .int y12_3), (2, .int y22_4)]) rfl rfl rfl rfl f_X5_leastBeats p24.1 rfl rfl rfl rfl rfl ?_
                refine ev_loc f_X5_leastBeats (nx := 1) rfl rfl rfl rfl ?_
                refine ev_loc f_X5_leastBeats (nx := 2) rfl rfl rfl rfl ?_
                refine ev_if f_X5_leastBeats (t1 := 9) (t2 := 5) rfl rfl rfl (fun h32 => ?_) (fun h32 => ?_)
                · have r33 : y12_3.toInt ≤ y22_4.toInt := Int32.le_iff_toInt_le.mp h32
                  refine ev_ic f_X5_leastBeats (nx := 10) (v := 0) rfl (by decide) rfl ?_
                  refine ev_retK1 f_X5_leastBeats rfl rfl rfl ?_
                  refine ev_loc f_X11_readings (nx := 97) (lo' := [(5, .int 0), (4, .int y22_4), (3, .int y12_3), (0, .ref 0), (1, .long ar1)]) rfl rfl rfl rfl ?_
                  have L34 : ∀ (m34 : Nat) (gi34 : Nat → Nat → Int32) (gl34 : Nat → Nat → Int64) (gr34 : Nat → Nat → Value) (y34_5 : Int32), t_I sh gi34 gr34 → t_X wl_d_readings sh gi gl gr gi34 gl34 gr34 → 0 ≤ y34_5.toInt → y34_5.toInt ≤ 13 → (gi34 0 14).toInt ≤ 6 + 78 * y12_3.toInt + 13 * y22_4.toInt + y34_5.toInt → (∀ (u : Nat) (D : s_D), gr 0 6 = .ref u → t_VL gr u → t_CV gi gl u D → t_Cb D → (u = 3 ∨ 102 ≤ u) → s_RI (s_S1 gi34) (s_R4 D ar1 y12_3.toInt y22_4.toInt y34_5.toInt) (s_rL D ar1) ∧ y12_3.toInt < D 0 ∧ y22_4.toInt < D 0) → (13 - y34_5.toInt).toNat = m34 → x_Ev X (d + 4) n_X11_readings 97 [(5, .int y34_5), (4, .int y22_4), (3, .int y12_3), (0, .ref 0), (1, .long ar1)] [] (sh, gi34, gl34, gr34) (t_PI wl_d_readings sh gi gl gr (-1) 474 (Q_d_readings gi gl gr ar1)) := by
                    intro m34
                    induction m34 using Nat.strongRecOn with
                    | _ m34 ih34 =>
                    intro gi34 gl34 gr34 y34_5 hI hX l34_5 u34_5 j34_0 j34_1 hm34
                    obtain ⟨l35, u35⟩ := hI.b (hI.wf.s (k := 0) rfl) (t_bdK rfl : t_bd 10 14 = some (0, 474))
                    refine ev_loc f_X11_readings (nx := 99) rfl rfl rfl rfl ?_
                    have hX97 := hX
                    refine ev_bp f_X11_readings (nx := 101) (v := 12) rfl (by decide) rfl ?_
                    refine ev_if f_X11_readings (t1 := 136) (t2 := 104) rfl rfl rfl (fun h36 => ?_) (fun h36 => ?_)
                    · have l37 : 13 ≤ y34_5.toInt := t_ltl h36 (by decide : (12:Int) ≤ (12:Int32).toInt) rfl
                      refine ev_incR f_X11_readings (nx := 139) (c := 1) (l := 1) (u := 6) rfl rfl (by decide) (by decide) l22_4 u30 rfl rfl (by decide) (by decide) rfl (fun z38 e38 l38 u38 => ?_)
                      refine ev_jmp f_X11_readings (nx := 73) rfl rfl rfl ?_
                      refine ev_sub (lo := [(4, .int z38), (3, .int y12_3), (0, .ref 0), (1, .long ar1)]) rfl (t_sc rfl (t_sc rfl (t_sc rfl (t_sc rfl t_sn)))) ?_
                      exact ih22 _ (by omega) gi34 gl34 gr34 (z38) hI hX  (Int.le_trans (by decide : (0:Int) ≤ 1) l38) u38 (by omega) (by
                                                            intro u D hu hl hc hb hv
                                                            obtain ⟨g1, g2, g3⟩ := j34_1 u D hu hl hc hb hv
                                                            exact ⟨g1.cg ((s_R4_e (by omega)).trans (by rw [show z38.toInt = y22_4.toInt + 1 by omega])), by omega⟩) rfl
                    · have u39 : y34_5.toInt ≤ 12 := t_leu (t_nlt h36) (by decide : (12:Int32).toInt ≤ (12:Int))
                      refine ev_loc f_X11_readings (nx := 105) rfl rfl rfl rfl ?_
                      obtain ⟨a40, e40, p40⟩ := hI.2.2.2.1.1
                      refine ev_getR f_X11_readings (nx := 108) rfl (hI.wf.s rfl) rfl rfl e40 rfl rfl ?_
                      refine ev_loc f_X11_readings (nx := 109) rfl rfl rfl rfl ?_
                      refine ev_loc f_X11_readings (nx := 111) rfl rfl rfl rfl ?_
                      refine ev_loc f_X11_readings (nx := 113) rfl rfl rfl rfl ?_
                      refine ev_inV4 f_X11_readings (nx := 116) (lo2 := [(0, .ref a40), (1, .int y12_3), (2, .int y22_4), (3, .int y34_5)]) rfl rfl rfl rfl f_X5_bothHeard p40.1 rfl rfl rfl rfl rfl ?_
                      refine ev_loc f_X5_bothHeard (nx := 1) rfl rfl rfl rfl ?_
                      refine ev_loc f_X5_bothHeard (nx := 2) rfl rfl rfl rfl ?_
                      refine ev_qL0 f_X5_bothHeard (nx := 5) (r := []) rfl rfl rfl rfl rfl rfl rfl (c_d_heardOf hI (a40) p40 (y12_3)) rfl (fun w41 q41 => ?_)
                      have q41 : ∀ D : s_D, t_VL gr34 a40 → t_CV gi34 gl34 a40 D → w41 = s_hd D y12_3.toInt := q41
                      refine ev_loc f_X5_bothHeard (nx := 6) rfl rfl rfl rfl ?_
                      refine ev_loc f_X5_bothHeard (nx := 7) rfl rfl rfl rfl ?_
                      refine ev_qL0 f_X5_bothHeard (nx := 10) (r := [.long w41]) rfl rfl rfl rfl rfl rfl rfl (c_d_heardOf hI (a40) p40 (y22_4)) rfl (fun w42 q42 => ?_)
                      have q42 : ∀ D : s_D, t_VL gr34 a40 → t_CV gi34 gl34 a40 D → w42 = s_hd D y22_4.toInt := q42
                      refine ev_loc f_X5_bothHeard (nx := 11) rfl rfl rfl rfl ?_
                      refine ev_anyLE f_X5_bothHeard (nx := 12) rfl rfl rfl rfl (fun z43 e43 => ?_)
                      refine ev_anyLE f_X5_bothHeard (nx := 13) rfl rfl rfl rfl (fun z44 e44 => ?_)
                      refine ev_retK1 f_X5_bothHeard rfl rfl rfl ?_
                      refine ev_loc f_X11_readings (nx := 117) rfl rfl rfl rfl ?_
                      refine ev_anyIE f_X11_readings (nx := 118) rfl rfl rfl rfl (fun z45 e45 => ?_)
                      refine ev_if f_X11_readings (t1 := 121) (t2 := 130) rfl rfl rfl (fun h46 => ?_) (fun h46 => ?_)
                      · have u47 : z45.toInt ≤ 0 := t_equ h46 (by decide : (0:Int32).toInt ≤ (0:Int))
                        have l48 : 0 ≤ z45.toInt := t_eql h46 (by decide : (0:Int) ≤ (0:Int32).toInt)
                        refine ev_loc f_X11_readings (nx := 122) rfl rfl rfl rfl ?_
                        refine ev_loc f_X11_readings (nx := 123) rfl rfl rfl rfl ?_
                        refine ev_loc f_X11_readings (nx := 125) rfl rfl rfl rfl ?_
                        refine ev_loc f_X11_readings (nx := 127) rfl rfl rfl rfl ?_
                        refine ev_qN f_X11_readings (nx := 130) (r := []) rfl rfl rfl rfl rfl rfl rfl (c_d_addReading hI (y12_3) (y22_4) (y34_5)) rfl hX rfl (fun gi49 gl49 gr49 hI hX hC49 q49 => ?_)
                        have q49 : (gi49 0 14).toInt ≤ (gi34 0 14).toInt + 1 ∧ (∀ (L : s_RL) (t : Int × Int × Int), s_S1 gi34 L → (gi34 0 14).toInt < 474 → y12_3.toInt = t.1 → y22_4.toInt = s_a6 t.2.1 → y34_5.toInt = s_a0 t.2.1 t.2.2 → s_S1 gi49 (L ++ [t])) := q49
                        replace p40 := p40.ext hC49.2
                        obtain ⟨l50, u50⟩ := hI.b (hI.wf.s (k := 0) rfl) (t_bdK rfl : t_bd 10 14 = some (0, 474))
                        refine ev_incR f_X11_readings (nx := 133) (c := 1) (l := 1) (u := 13) rfl rfl (by decide) (by decide) l34_5 u39 rfl rfl (by decide) (by decide) rfl (fun z51 e51 l51 u51 => ?_)
                        refine ev_jmp f_X11_readings (nx := 97) rfl rfl rfl ?_
                        refine ev_sub (lo := [(5, .int z51), (4, .int y22_4), (3, .int y12_3), (0, .ref 0), (1, .long ar1)]) rfl (t_sc rfl (t_sc rfl (t_sc rfl (t_sc rfl (t_sc rfl t_sn))))) ?_
                        exact ih34 _ (by omega) gi49 gl49 gr49 (z51) hI hX  (Int.le_trans (by decide : (0:Int) ≤ 1) l51) u51 (by omega) (by
                                                            intro u D hu hl hc hb hv
                                                            obtain ⟨g1, g2, g3⟩ := j34_1 u D hu hl hc hb hv
                                                            have hun : gr34 0 6 = .ref u := ((t_F_X hX97) 0 6 (by decide) rfl).2.2.trans hu
                                                            have hKh := t_nd_fr hX97 rfl
                                                            have hlh := hl.fr (fun K k1 k2 => hKh K (by omega))
                                                            have hch := hc.fr (fun K k1 k2 => hKh K (by omega))
                                                            have ha : a40 = u := Value.ref.inj ((e40).symm.trans hun)
                                                            subst ha
                                                            have hm := hch.1.1
                                                            have hw := s_bw_e (q41 D hlh hch) (q42 D hlh hch) e43 e44
                                                            have hne := (t_le0 e45 h46)
                                                            rw [hw] at hne
                                                            exact ⟨(g1.add (s_R4_y (by omega) hne) (fun L hL => q49.2 L _ hL (by omega) rfl (s_a6_n (by omega)).symm (s_a0_n (by omega)).symm)).cg (by rw [show z51.toInt = y34_5.toInt + 1 by omega]), g2, g3⟩) rfl
                      · have r52 : z45.toInt ≠ 0 := fun e => h46 (Int32.toInt_inj.mp (e.trans (by decide : (0:Int) = (0 : Int32).toInt)))
                        refine ev_incR f_X11_readings (nx := 133) (c := 1) (l := 1) (u := 13) rfl rfl (by decide) (by decide) l34_5 u39 rfl rfl (by decide) (by decide) rfl (fun z53 e53 l53 u53 => ?_)
                        refine ev_jmp f_X11_readings (nx := 97) rfl rfl rfl ?_
                        refine ev_sub (lo := [(5, .int z53), (4, .int y22_4), (3, .int y12_3), (0, .ref 0), (1, .long ar1)]) rfl (t_sc rfl (t_sc rfl (t_sc rfl (t_sc rfl (t_sc rfl t_sn))))) ?_
                        exact ih34 _ (by omega) gi34 gl34 gr34 (z53) hI hX  (Int.le_trans (by decide : (0:Int) ≤ 1) l53) u53 (by omega) (by
                                                            intro u D hu hl hc hb hv
                                                            obtain ⟨g1, g2, g3⟩ := j34_1 u D hu hl hc hb hv
                                                            have hun : gr34 0 6 = .ref u := ((t_F_X hX97) 0 6 (by decide) rfl).2.2.trans hu
                                                            have hKh := t_nd_fr hX97 rfl
                                                            have hlh := hl.fr (fun K k1 k2 => hKh K (by omega))
                                                            have hch := hc.fr (fun K k1 k2 => hKh K (by omega))
                                                            have ha : a40 = u := Value.ref.inj ((e40).symm.trans hun)
                                                            subst ha
                                                            have hm := hch.1.1
                                                            have hw := s_bw_e (q41 D hlh hch) (q42 D hlh hch) e43 e44
                                                            have hne := (t_le1 e45 h46)
                                                            rw [hw] at hne
                                                            exact ⟨g1.cg ((s_R4_n (by omega) hne).trans (by rw [show z53.toInt = y34_5.toInt + 1 by omega])), g2, g3⟩) rfl
                  refine ev_sub (lo := [(5, .int 0), (4, .int y22_4), (3, .int y12_3), (0, .ref 0), (1, .long ar1)]) rfl (t_sc rfl (t_sc rfl (t_sc rfl (t_sc rfl (t_sc rfl t_sn))))) ?_
                  exact L34 _ gi22 gl22 gr22 (0) hI hX  (by decide : (0:Int) ≤ (0:Int32).toInt) (Int.le_trans (by decide : (0:Int32).toInt ≤ (0:Int)) (by decide : (0:Int) ≤ 13)) (by have kf54 : (0 : Int32).toInt = 0 := (by decide); omega) (by
                                                            intro u D hu hl hc hb hv
                                                            obtain ⟨g1, g2⟩ := j22_1 u D hu hl hc hb hv
                                                            have hun : gr22 0 6 = .ref u := ((t_F_X hX73) 0 6 (by decide) rfl).2.2.trans hu
                                                            have hKh := t_nd_fr hX73 rfl
                                                            have hlh := hl.fr (fun K k1 k2 => hKh K (by omega))
                                                            have hch := hc.fr (fun K k1 k2 => hKh K (by omega))
                                                            have ha : a24 = u := Value.ref.inj ((e24).symm.trans hun)
                                                            subst ha
                                                            have hm := hch.1.1
                                                            have hl2 : s_lb y12_3.toInt y22_4.toInt = (0 : Int32).toInt := s_lb_0 (by omega)
                                                            exact ⟨g1.cg ((s_R3_s (by omega)).trans (by rw [hl2])), g2, by omega⟩) rfl
                · have r55 : y22_4.toInt < y12_3.toInt := Int32.lt_iff_toInt_lt.mp (t_nle h32)
                  have u56 : y22_4.toInt ≤ 4 := t_ltu (t_nle h32) u20 rfl
                  have l57 : 1 ≤ y12_3.toInt := t_ltl (t_nle h32) l22_4 rfl
                  refine ev_ic f_X5_leastBeats (nx := 6) (v := 1) rfl (by decide) rfl ?_
                  refine ev_jmp f_X5_leastBeats (nx := 10) rfl rfl rfl ?_
                  refine ev_retK1 f_X5_leastBeats rfl rfl rfl ?_
                  refine ev_loc f_X11_readings (nx := 97) (lo' := [(5, .int 1), (4, .int y22_4), (3, .int y12_3), (0, .ref 0), (1, .long ar1)]) rfl rfl rfl rfl ?_
                  have L58 : ∀ (m58 : Nat) (gi58 : Nat → Nat → Int32) (gl58 : Nat → Nat → Int64) (gr58 : Nat → Nat → Value) (y58_5 : Int32), t_I sh gi58 gr58 → t_X wl_d_readings sh gi gl gr gi58 gl58 gr58 → 0 ≤ y58_5.toInt → y58_5.toInt ≤ 13 → (gi58 0 14).toInt ≤ 6 + 78 * y12_3.toInt + 13 * y22_4.toInt + y58_5.toInt → (∀ (u : Nat) (D : s_D), gr 0 6 = .ref u → t_VL gr u → t_CV gi gl u D → t_Cb D → (u = 3 ∨ 102 ≤ u) → s_RI (s_S1 gi58) (s_R4 D ar1 y12_3.toInt y22_4.toInt y58_5.toInt) (s_rL D ar1) ∧ y12_3.toInt < D 0 ∧ y22_4.toInt < D 0) → (13 - y58_5.toInt).toNat = m58 → x_Ev X (d + 4) n_X11_readings 97 [(5, .int y58_5), (4, .int y22_4), (3, .int y12_3), (0, .ref 0), (1, .long ar1)] [] (sh, gi58, gl58, gr58) (t_PI wl_d_readings sh gi gl gr (-1) 474 (Q_d_readings gi gl gr ar1)) := by
                    intro m58
                    induction m58 using Nat.strongRecOn with
                    | _ m58 ih58 =>
                    intro gi58 gl58 gr58 y58_5 hI hX l58_5 u58_5 j58_0 j58_1 hm58
                    obtain ⟨l59, u59⟩ := hI.b (hI.wf.s (k := 0) rfl) (t_bdK rfl : t_bd 10 14 = some (0, 474))
                    refine ev_loc f_X11_readings (nx := 99) rfl rfl rfl rfl ?_
                    have hX97 := hX
                    refine ev_bp f_X11_readings (nx := 101) (v := 12) rfl (by decide) rfl ?_
                    refine ev_if f_X11_readings (t1 := 136) (t2 := 104) rfl rfl rfl (fun h60 => ?_) (fun h60 => ?_)
                    · have l61 : 13 ≤ y58_5.toInt := t_ltl h60 (by decide : (12:Int) ≤ (12:Int32).toInt) rfl
                      refine ev_incR f_X11_readings (nx := 139) (c := 1) (l := 1) (u := 5) rfl rfl (by decide) (by decide) l22_4 u56 rfl rfl (by decide) (by decide) rfl (fun z62 e62 l62 u62 => ?_)
                      refine ev_jmp f_X11_readings (nx := 73) rfl rfl rfl ?_
                      refine ev_sub (lo := [(4, .int z62), (3, .int y12_3), (0, .ref 0), (1, .long ar1)]) rfl (t_sc rfl (t_sc rfl (t_sc rfl (t_sc rfl t_sn)))) ?_
                      exact ih22 _ (by omega) gi58 gl58 gr58 (z62) hI hX  (Int.le_trans (by decide : (0:Int) ≤ 1) l62) (Int.le_trans u62 (by decide : (5:Int) ≤ 6)) (by omega) (by
                                                            intro u D hu hl hc hb hv
                                                            obtain ⟨g1, g2, g3⟩ := j58_1 u D hu hl hc hb hv
                                                            exact ⟨g1.cg ((s_R4_e (by omega)).trans (by rw [show z62.toInt = y22_4.toInt + 1 by omega])), by omega⟩) rfl
                    · have u63 : y58_5.toInt ≤ 12 := t_leu (t_nlt h60) (by decide : (12:Int32).toInt ≤ (12:Int))
                      refine ev_loc f_X11_readings (nx := 105) rfl rfl rfl rfl ?_
                      obtain ⟨a64, e64, p64⟩ := hI.2.2.2.1.1
                      refine ev_getR f_X11_readings (nx := 108) rfl (hI.wf.s rfl) rfl rfl e64 rfl rfl ?_
                      refine ev_loc f_X11_readings (nx := 109) rfl rfl rfl rfl ?_
                      refine ev_loc f_X11_readings (nx := 111) rfl rfl rfl rfl ?_
                      refine ev_loc f_X11_readings (nx := 113) rfl rfl rfl rfl ?_
                      refine ev_inV4 f_X11_readings (nx := 116) (lo2 := [(0, .ref a64), (1, .int y12_3), (2, .int y22_4), (3, .int y58_5)]) rfl rfl rfl rfl f_X5_bothHeard p64.1 rfl rfl rfl rfl rfl ?_
                      refine ev_loc f_X5_bothHeard (nx := 1) rfl rfl rfl rfl ?_
                      refine ev_loc f_X5_bothHeard (nx := 2) rfl rfl rfl rfl ?_
                      refine ev_qL0 f_X5_bothHeard (nx := 5) (r := []) rfl rfl rfl rfl rfl rfl rfl (c_d_heardOf hI (a64) p64 (y12_3)) rfl (fun w65 q65 => ?_)
                      have q65 : ∀ D : s_D, t_VL gr58 a64 → t_CV gi58 gl58 a64 D → w65 = s_hd D y12_3.toInt := q65
                      refine ev_loc f_X5_bothHeard (nx := 6) rfl rfl rfl rfl ?_
                      refine ev_loc f_X5_bothHeard (nx := 7) rfl rfl rfl rfl ?_
                      refine ev_qL0 f_X5_bothHeard (nx := 10) (r := [.long w65]) rfl rfl rfl rfl rfl rfl rfl (c_d_heardOf hI (a64) p64 (y22_4)) rfl (fun w66 q66 => ?_)
                      have q66 : ∀ D : s_D, t_VL gr58 a64 → t_CV gi58 gl58 a64 D → w66 = s_hd D y22_4.toInt := q66
                      refine ev_loc f_X5_bothHeard (nx := 11) rfl rfl rfl rfl ?_
                      refine ev_anyLE f_X5_bothHeard (nx := 12) rfl rfl rfl rfl (fun z67 e67 => ?_)
                      refine ev_anyLE f_X5_bothHeard (nx := 13) rfl rfl rfl rfl (fun z68 e68 => ?_)
                      refine ev_retK1 f_X5_bothHeard rfl rfl rfl ?_
                      refine ev_loc f_X11_readings (nx := 117) rfl rfl rfl rfl ?_
                      refine ev_anyIE f_X11_readings (nx := 118) rfl rfl rfl rfl (fun z69 e69 => ?_)
                      refine ev_if f_X11_readings (t1 := 121) (t2 := 130) rfl rfl rfl (fun h70 => ?_) (fun h70 => ?_)
                      · have u71 : z69.toInt ≤ 0 := t_equ h70 (by decide : (0:Int32).toInt ≤ (0:Int))
                        have l72 : 0 ≤ z69.toInt := t_eql h70 (by decide : (0:Int) ≤ (0:Int32).toInt)
                        refine ev_loc f_X11_readings (nx := 122) rfl rfl rfl rfl ?_
                        refine ev_loc f_X11_readings (nx := 123) rfl rfl rfl rfl ?_
                        refine ev_loc f_X11_readings (nx := 125) rfl rfl rfl rfl ?_
                        refine ev_loc f_X11_readings (nx := 127) rfl rfl rfl rfl ?_
                        refine ev_qN f_X11_readings (nx := 130) (r := []) rfl rfl rfl rfl rfl rfl rfl (c_d_addReading hI (y12_3) (y22_4) (y58_5)) rfl hX rfl (fun gi73 gl73 gr73 hI hX hC73 q73 => ?_)
                        have q73 : (gi73 0 14).toInt ≤ (gi58 0 14).toInt + 1 ∧ (∀ (L : s_RL) (t : Int × Int × Int), s_S1 gi58 L → (gi58 0 14).toInt < 474 → y12_3.toInt = t.1 → y22_4.toInt = s_a6 t.2.1 → y58_5.toInt = s_a0 t.2.1 t.2.2 → s_S1 gi73 (L ++ [t])) := q73
                        replace p64 := p64.ext hC73.2
                        obtain ⟨l74, u74⟩ := hI.b (hI.wf.s (k := 0) rfl) (t_bdK rfl : t_bd 10 14 = some (0, 474))
                        refine ev_incR f_X11_readings (nx := 133) (c := 1) (l := 1) (u := 13) rfl rfl (by decide) (by decide) l58_5 u63 rfl rfl (by decide) (by decide) rfl (fun z75 e75 l75 u75 => ?_)
                        refine ev_jmp f_X11_readings (nx := 97) rfl rfl rfl ?_
                        refine ev_sub (lo := [(5, .int z75), (4, .int y22_4), (3, .int y12_3), (0, .ref 0), (1, .long ar1)]) rfl (t_sc rfl (t_sc rfl (t_sc rfl (t_sc rfl (t_sc rfl t_sn))))) ?_
                        exact ih58 _ (by omega) gi73 gl73 gr73 (z75) hI hX  (Int.le_trans (by decide : (0:Int) ≤ 1) l75) u75 (by omega) (by
                                                            intro u D hu hl hc hb hv
                                                            obtain ⟨g1, g2, g3⟩ := j58_1 u D hu hl hc hb hv
                                                            have hun : gr58 0 6 = .ref u := ((t_F_X hX97) 0 6 (by decide) rfl).2.2.trans hu
                                                            have hKh := t_nd_fr hX97 rfl
                                                            have hlh := hl.fr (fun K k1 k2 => hKh K (by omega))
                                                            have hch := hc.fr (fun K k1 k2 => hKh K (by omega))
                                                            have ha : a64 = u := Value.ref.inj ((e64).symm.trans hun)
                                                            subst ha
                                                            have hm := hch.1.1
                                                            have hw := s_bw_e (q65 D hlh hch) (q66 D hlh hch) e67 e68
                                                            have hne := (t_le0 e69 h70)
                                                            rw [hw] at hne
                                                            exact ⟨(g1.add (s_R4_y (by omega) hne) (fun L hL => q73.2 L _ hL (by omega) rfl (s_a6_n (by omega)).symm (s_a0_n (by omega)).symm)).cg (by rw [show z75.toInt = y58_5.toInt + 1 by omega]), g2, g3⟩) rfl
                      · have r76 : z69.toInt ≠ 0 := fun e => h70 (Int32.toInt_inj.mp (e.trans (by decide : (0:Int) = (0 : Int32).toInt)))
                        refine ev_incR f_X11_readings (nx := 133) (c := 1) (l := 1) (u := 13) rfl rfl (by decide) (by decide) l58_5 u63 rfl rfl (by decide) (by decide) rfl (fun z77 e77 l77 u77 => ?_)
                        refine ev_jmp f_X11_readings (nx := 97) rfl rfl rfl ?_
                        refine ev_sub (lo := [(5, .int z77), (4, .int y22_4), (3, .int y12_3), (0, .ref 0), (1, .long ar1)]) rfl (t_sc rfl (t_sc rfl (t_sc rfl (t_sc rfl (t_sc rfl t_sn))))) ?_
                        exact ih58 _ (by omega) gi58 gl58 gr58 (z77) hI hX  (Int.le_trans (by decide : (0:Int) ≤ 1) l77) u77 (by omega) (by
                                                            intro u D hu hl hc hb hv
                                                            obtain ⟨g1, g2, g3⟩ := j58_1 u D hu hl hc hb hv
                                                            have hun : gr58 0 6 = .ref u := ((t_F_X hX97) 0 6 (by decide) rfl).2.2.trans hu
                                                            have hKh := t_nd_fr hX97 rfl
                                                            have hlh := hl.fr (fun K k1 k2 => hKh K (by omega))
                                                            have hch := hc.fr (fun K k1 k2 => hKh K (by omega))
                                                            have ha : a64 = u := Value.ref.inj ((e64).symm.trans hun)
                                                            subst ha
                                                            have hm := hch.1.1
                                                            have hw := s_bw_e (q65 D hlh hch) (q66 D hlh hch) e67 e68
                                                            have hne := (t_le1 e69 h70)
                                                            rw [hw] at hne
                                                            exact ⟨g1.cg ((s_R4_n (by omega) hne).trans (by rw [show z77.toInt = y58_5.toInt + 1 by omega])), g2, g3⟩) rfl
                  refine ev_sub (lo := [(5, .int 1), (4, .int y22_4), (3, .int y12_3), (0, .ref 0), (1, .long ar1)]) rfl (t_sc rfl (t_sc rfl (t_sc rfl (t_sc rfl (t_sc rfl t_sn))))) ?_
                  exact L58 _ gi22 gl22 gr22 (1) hI hX  (Int.le_trans (by decide : (0:Int) ≤ 1) (by decide : (1:Int) ≤ (1:Int32).toInt)) (Int.le_trans (by decide : (1:Int32).toInt ≤ (1:Int)) (by decide : (1:Int) ≤ 13)) (by have kf78 : (1 : Int32).toInt = 1 := (by decide); omega) (by
                                                            intro u D hu hl hc hb hv
                                                            obtain ⟨g1, g2⟩ := j22_1 u D hu hl hc hb hv
                                                            have hun : gr22 0 6 = .ref u := ((t_F_X hX73) 0 6 (by decide) rfl).2.2.trans hu
                                                            have hKh := t_nd_fr hX73 rfl
                                                            have hlh := hl.fr (fun K k1 k2 => hKh K (by omega))
                                                            have hch := hc.fr (fun K k1 k2 => hKh K (by omega))
                                                            have ha : a24 = u := Value.ref.inj ((e24).symm.trans hun)
                                                            subst ha
                                                            have hm := hch.1.1
                                                            have hl2 : s_lb y12_3.toInt y22_4.toInt = (1 : Int32).toInt := s_lb_1 (by omega)
                                                            exact ⟨g1.cg ((s_R3_s (by omega)).trans (by rw [hl2])), g2, by omega⟩) rfl
            refine ev_sub (lo := [(4, .int 0), (3, .int y12_3), (0, .ref 0), (1, .long ar1)]) rfl (t_sc rfl (t_sc rfl (t_sc rfl (t_sc rfl t_sn)))) ?_
            exact L22 _ gi12 gl12 gr12 (0) hI hX  (by decide : (0:Int) ≤ (0:Int32).toInt) (Int.le_trans (by decide : (0:Int32).toInt ≤ (0:Int)) (by decide : (0:Int) ≤ 6)) (by have kf79 : (0 : Int32).toInt = 0 := (by decide); omega) (by
                                                            intro u D hu hl hc hb hv
                                                            have g1 := j12_1 u D hu hl hc hb hv
                                                            have hun : gr12 0 6 = .ref u := ((t_F_X hX59) 0 6 (by decide) rfl).2.2.trans hu
                                                            have hKh := t_nd_fr hX59 rfl
                                                            have hlh := hl.fr (fun K k1 k2 => hKh K (by omega))
                                                            have hch := hc.fr (fun K k1 k2 => hKh K (by omega))
                                                            have ha : a14 = u := Value.ref.inj ((e14).symm.trans hun)
                                                            subst ha
                                                            have hm := hch.1.1
                                                            exact ⟨g1.cg (s_R2_s (by omega)), by omega⟩) rfl
        refine ev_sub (lo := [(3, .int 0), (0, .ref 0), (1, .long ar1)]) rfl (t_sc rfl (t_sc rfl (t_sc rfl t_sn))) ?_
        exact L12 _ gi6 gl6 gr6 (0) hI hX  (by decide : (0:Int) ≤ (0:Int32).toInt) (Int.le_trans (by decide : (0:Int32).toInt ≤ (0:Int)) (by decide : (0:Int) ≤ 6)) (by have kf80 : (0 : Int32).toInt = 0 := (by decide); omega) (by
                                                            intro u D hu hl hc hb hv
                                                            have g1 := j6_1 u D hu hl hc hb hv
                                                            have hun : gr6 0 6 = .ref u := ((t_F_X hX19) 0 6 (by decide) rfl).2.2.trans hu
                                                            have hKh := t_nd_fr hX19 rfl
                                                            have hlh := hl.fr (fun K k1 k2 => hKh K (by omega))
                                                            have hch := hc.fr (fun K k1 k2 => hKh K (by omega))
                                                            have ha : a8 = u := Value.ref.inj ((e8).symm.trans hun)
                                                            subst ha
                                                            have hm := hch.1.1
                                                            exact g1.cg (s_R1_e (by omega))) rfl
      · have r81 : y6_3.toInt < (gi6 a8 0).toInt := Int32.lt_iff_toInt_lt.mp (t_nle h10)
        have u82 : y6_3.toInt ≤ 5 := t_ltu (t_nle h10) u9 rfl
        have l83 : 1 ≤ (gi6 a8 0).toInt := t_ltl (t_nle h10) l6_3 rfl
        refine ev_loc f_X11_readings (nx := 31) rfl rfl rfl rfl ?_
        refine ev_getR f_X11_readings (nx := 34) (v := .ref a8) rfl (hI.wf.s rfl) rfl rfl e8 rfl rfl ?_
        refine ev_loc f_X11_readings (nx := 35) rfl rfl rfl rfl ?_
        refine ev_qL0 f_X11_readings (nx := 38) (r := []) rfl rfl rfl rfl rfl rfl rfl (c_d_heardOf hI (a8) p8 (y6_3)) rfl (fun w84 q84 => ?_)
        have q84 : ∀ D : s_D, t_VL gr6 a8 → t_CV gi6 gl6 a8 D → w84 = s_hd D y6_3.toInt := q84
        refine ev_loc f_X11_readings (nx := 39) rfl rfl rfl rfl ?_
        refine ev_anyIE f_X11_readings (nx := 40) rfl rfl rfl rfl (fun z85 e85 => ?_)
        refine ev_if f_X11_readings (t1 := 43) (t2 := 51) rfl rfl rfl (fun h86 => ?_) (fun h86 => ?_)
        · have u87 : z85.toInt ≤ 0 := t_equ h86 (by decide : (0:Int32).toInt ≤ (0:Int))
          have l88 : 0 ≤ z85.toInt := t_eql h86 (by decide : (0:Int) ≤ (0:Int32).toInt)
          refine ev_loc f_X11_readings (nx := 44) rfl rfl rfl rfl ?_
          refine ev_loc f_X11_readings (nx := 45) rfl rfl rfl rfl ?_
          refine ev_bp f_X11_readings (nx := 47) (v := 6) rfl (by decide) rfl ?_
          refine ev_ic f_X11_readings (nx := 48) (v := 0) rfl (by decide) rfl ?_
          refine ev_qN f_X11_readings (nx := 51) (r := []) rfl rfl rfl rfl rfl rfl rfl (c_d_addReading hI (y6_3) (6) (0)) rfl hX rfl (fun gi89 gl89 gr89 hI hX hC89 q89 => ?_)
          have q89 : (gi89 0 14).toInt ≤ (gi6 0 14).toInt + 1 ∧ (∀ (L : s_RL) (t : Int × Int × Int), s_S1 gi6 L → (gi6 0 14).toInt < 474 → y6_3.toInt = t.1 → 6 = s_a6 t.2.1 → 0 = s_a0 t.2.1 t.2.2 → s_S1 gi89 (L ++ [t])) := q89
          replace p8 := p8.ext hC89.2
          obtain ⟨l90, u90⟩ := hI.b (hI.wf.s (k := 0) rfl) (t_bdK rfl : t_bd 10 14 = some (0, 474))
          refine ev_incR f_X11_readings (nx := 54) (c := 1) (l := 1) (u := 6) rfl rfl (by decide) (by decide) l6_3 u82 rfl rfl (by decide) (by decide) rfl (fun z91 e91 l91 u91 => ?_)
          refine ev_jmp f_X11_readings (nx := 19) rfl rfl rfl ?_
          refine ev_sub (lo := [(3, .int z91), (0, .ref 0), (1, .long ar1)]) rfl (t_sc rfl (t_sc rfl (t_sc rfl t_sn))) ?_
          exact ih6 _ (by omega) gi89 gl89 gr89 (z91) hI hX  (Int.le_trans (by decide : (0:Int) ≤ 1) l91) u91 (by omega) (by
                                                            intro u D hu hl hc hb hv
                                                            have g1 := j6_1 u D hu hl hc hb hv
                                                            have hun : gr6 0 6 = .ref u := ((t_F_X hX19) 0 6 (by decide) rfl).2.2.trans hu
                                                            have hKh := t_nd_fr hX19 rfl
                                                            have hlh := hl.fr (fun K k1 k2 => hKh K (by omega))
                                                            have hch := hc.fr (fun K k1 k2 => hKh K (by omega))
                                                            have ha : a8 = u := Value.ref.inj ((e8).symm.trans hun)
                                                            subst ha
                                                            have hm := hch.1.1
                                                            have hw := q84 D hlh hch
                                                            have hne := (t_le0 e85 h86)
                                                            rw [hw] at hne
                                                            exact (g1.add (s_R1_y (by omega) hne) (fun L hL => q89.2 L _ hL (by omega) rfl rfl rfl)).cg (by rw [show z91.toInt = y6_3.toInt + 1 by omega])) rfl
        · have r92 : z85.toInt ≠ 0 := fun e => h86 (Int32.toInt_inj.mp (e.trans (by decide : (0:Int) = (0 : Int32).toInt)))
          refine ev_incR f_X11_readings (nx := 54) (c := 1) (l := 1) (u := 6) rfl rfl (by decide) (by decide) l6_3 u82 rfl rfl (by decide) (by decide) rfl (fun z93 e93 l93 u93 => ?_)
          refine ev_jmp f_X11_readings (nx := 19) rfl rfl rfl ?_
          refine ev_sub (lo := [(3, .int z93), (0, .ref 0), (1, .long ar1)]) rfl (t_sc rfl (t_sc rfl (t_sc rfl t_sn))) ?_
          exact ih6 _ (by omega) gi6 gl6 gr6 (z93) hI hX  (Int.le_trans (by decide : (0:Int) ≤ 1) l93) u93 (by omega) (by
                                                            intro u D hu hl hc hb hv
                                                            have g1 := j6_1 u D hu hl hc hb hv
                                                            have hun : gr6 0 6 = .ref u := ((t_F_X hX19) 0 6 (by decide) rfl).2.2.trans hu
                                                            have hKh := t_nd_fr hX19 rfl
                                                            have hlh := hl.fr (fun K k1 k2 => hKh K (by omega))
                                                            have hch := hc.fr (fun K k1 k2 => hKh K (by omega))
                                                            have ha : a8 = u := Value.ref.inj ((e8).symm.trans hun)
                                                            subst ha
                                                            have hm := hch.1.1
                                                            have hw := q84 D hlh hch
                                                            have hne := (t_le1 e85 h86)
                                                            rw [hw] at hne
                                                            exact g1.cg ((s_R1_n (by omega) hne).trans (by rw [show z93.toInt = y6_3.toInt + 1 by omega]))) rfl
    refine ev_sub (lo := [(3, .int 0), (0, .ref 0), (1, .long ar1)]) rfl (t_sc rfl (t_sc rfl (t_sc rfl t_sn))) ?_
    exact L6 _ g5 gl gr (0) hI hX  (by decide : (0:Int) ≤ (0:Int32).toInt) (Int.le_trans (by decide : (0:Int32).toInt ≤ (0:Int)) (by decide : (0:Int) ≤ 6)) (by have kf94 : (0 : Int32).toInt = 0 := (by decide); have ff95 : (g5 0 14).toInt = 0 := (congrArg Int32.toInt (by rw [e5]; exact x_up2_at _ _ _ _ : g5 0 14 = 0)).trans (by decide); omega) (by
                                                            intro u D hu hl hc hb hv
                                                            exact s_RI.nil (s_S1_nil (by have ff96 : (g5 0 14).toInt = 0 := (congrArg Int32.toInt (by rw [e5]; exact x_up2_at _ _ _ _ : g5 0 14 = 0)).trans (by decide); omega)) s_R1_0) rfl
  · have u97 : z2.toInt ≤ (-1) := t_ltu (t_nle h3) (by decide : (0:Int32).toInt ≤ (0:Int)) rfl
    refine ev_loc f_X11_readings (nx := 7) rfl rfl rfl rfl ?_
    refine ev_ic f_X11_readings (nx := 8) (v := 1) rfl (by decide) rfl ?_
    refine ev_inV2 f_X11_readings (nx := 11) (lo2 := [(0, .ref 0), (1, .int 1)]) rfl rfl rfl rfl f_X11_refuse (hI.wf.s rfl) rfl rfl rfl rfl rfl ?_
    refine ev_loc f_X11_refuse (nx := 1) rfl rfl rfl rfl ?_
    refine ev_loc f_X11_refuse (nx := 2) rfl rfl rfl rfl ?_
    refine ev_putIT f_X11_refuse (nx := 5) rfl (hI.wf.s rfl) rfl rfl rfl (hI.put0 (hI.wf.s rfl) rfl rfl) (hX.upI rfl) (fun g98 e98 hI hX => ?_)
    refine ev_ic f_X11_refuse (nx := 6) (v := -1) rfl (by decide) rfl ?_
    refine ev_retK1 f_X11_refuse rfl rfl rfl ?_
    exact ev_ret f_X11_readings rfl rfl rfl ⟨_, _, _, rfl, hI, hX, ⟨_, rfl, (by decide : ((-1):Int) ≤ ((-1):Int32).toInt), (Int.le_trans (by decide : ((-1):Int32).toInt ≤ ((-1):Int)) (by decide : ((-1):Int) ≤ 474)), (show (∀ (u : Nat) (D : s_D), gr 0 6 = .ref u → t_VL gr u → t_CV gi gl u D → t_Cb D → (u = 3 ∨ 102 ≤ u) → (1 ≤ ar1.toInt → s_S1 g98 (s_rL D ar1) ∧ ((-1) : Int) = ((s_rL D ar1).length : Int)) ∧ (ar1.toInt < 1 → ((-1) : Int) = -1 ∧ ∀ L, s_S1 gi L → s_S1 g98 L)) from (by
                                                            intro u D hu hl hc hb hv
                                                            have h1 := (t_lt1q e2 h3)
                                                            exact ⟨fun h => absurd h (by omega), fun _ => ⟨rfl, fun L hL => hL.cg (by rw [e98]; exact x_up2_off (Or.inr (by decide))) (by rw [e98]; exact x_up2_ne (by decide))⟩⟩))⟩⟩
