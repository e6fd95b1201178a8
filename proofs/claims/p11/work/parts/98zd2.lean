/-! ===== printed by riv.py: SHIPS and CARTS told ===== -/
noncomputable def wl_d_ship : List (Nat × Nat) := [(0, 0)]
noncomputable def Q_d_ship (gi : Nat → Nat → Int32) (gl : Nat → Nat → Int64) (gr : Nat → Nat → Value) (ar1 : Int32) (ar2 : Int32) : Int32 → (Nat → Nat → Int32) → (Nat → Nat → Int64) → (Nat → Nat → Value) → Prop := fun (v : Int32) (gi2 : Nat → Nat → Int32) (gl2 : Nat → Nat → Int64) (gr2 : Nat → Nat → Value) => ∀ (u : Nat) (D : s_D), gr 0 6 = .ref u → t_VL gr u → t_CV gi gl u D → t_Cb D → (∀ s : Nat, (s : Int) < D 1 → 0 ≤ D (56 + 5 * s) ∧ D (56 + 5 * s) ≤ 1) → ((0 ≤ ar1.toInt ∧ ar1.toInt < D 1 ∧ 0 ≤ ar2.toInt ∧ ar2.toInt ≤ 4) → v.toInt = D (52 + 5 * ar1.toNatClampNeg + ar2.toNatClampNeg)) ∧ (¬ (0 ≤ ar1.toInt ∧ ar1.toInt < D 1 ∧ 0 ≤ ar2.toInt ∧ ar2.toInt ≤ 4) → v.toInt = -1)
theorem c_d_ship {X : x_Ext} {d : Nat} {sh : List (Nat ⊕ (Nat × Nat))} {gi : Nat → Nat → Int32} {gl : Nat → Nat → Int64} {gr : Nat → Nat → Value} (hI : t_I sh gi gr) (ar1 : Int32) (ar2 : Int32) : x_Me X (d + 2) n_X11_ship [.ref 0, .int ar1, .int ar2] (sh, gi, gl, gr) (t_PI wl_d_ship sh gi gl gr (-2147483648) 2147483647 (Q_d_ship gi gl gr ar1 ar2)) := by
  have hX : t_X wl_d_ship sh gi gl gr gi gl gr := t_X.rf
  refine me_i f_X11_ship (hI.wf.s rfl) rfl rfl rfl ?_
  refine ev_loc f_X11_ship (nx := 1) rfl rfl rfl rfl ?_
  refine ev_loc f_X11_ship (nx := 2) rfl rfl rfl rfl ?_
  refine ev_inV2 f_X11_ship (nx := 5) (lo2 := [(0, .ref 0), (1, .int ar1)]) rfl rfl rfl rfl f_X11_isShip (hI.wf.s rfl) rfl rfl rfl rfl rfl ?_
  refine ev_loc f_X11_isShip (nx := 1) rfl rfl rfl rfl ?_
  refine ev_if f_X11_isShip (t1 := 22) (t2 := 4) rfl rfl rfl (fun h1 => ?_) (fun h1 => ?_)
  · have u2 : ar1.toInt ≤ (-1) := t_ltu h1 (by decide : (0:Int32).toInt ≤ (0:Int)) rfl
    refine ev_ic f_X11_isShip (nx := 23) (v := 0) rfl (by decide) rfl ?_
    refine ev_retK1 f_X11_isShip rfl rfl rfl ?_
    refine ev_t f_X11_ship (t1 := 8) (t2 := 14) rfl rfl rfl (by decide) ?_
    refine ev_loc f_X11_ship (nx := 9) rfl rfl rfl rfl ?_
    refine ev_ic f_X11_ship (nx := 10) (v := 1) rfl (by decide) rfl ?_
    refine ev_inV2 f_X11_ship (nx := 13) (lo2 := [(0, .ref 0), (1, .int 1)]) rfl rfl rfl rfl f_X11_refuse (hI.wf.s rfl) rfl rfl rfl rfl rfl ?_
    refine ev_loc f_X11_refuse (nx := 1) rfl rfl rfl rfl ?_
    refine ev_loc f_X11_refuse (nx := 2) rfl rfl rfl rfl ?_
    refine ev_putIT f_X11_refuse (nx := 5) rfl (hI.wf.s rfl) rfl rfl rfl (hI.put0 (hI.wf.s rfl) rfl rfl) (hX.upI rfl) (fun g3 e3 hI hX => ?_)
    refine ev_ic f_X11_refuse (nx := 6) (v := -1) rfl (by decide) rfl ?_
    refine ev_retK1 f_X11_refuse rfl rfl rfl ?_
    exact ev_ret f_X11_ship rfl rfl rfl ⟨_, _, _, rfl, hI, hX, ⟨_, rfl, (Int.le_trans (by decide : ((-2147483648):Int) ≤ (-1)) (by decide : ((-1):Int) ≤ ((-1):Int32).toInt)), (Int.le_trans (by decide : ((-1):Int32).toInt ≤ ((-1):Int)) (by decide : ((-1):Int) ≤ 2147483647)), (show ∀ (u : Nat) (D : s_D), gr 0 6 = .ref u → t_VL gr u → t_CV gi gl u D → t_Cb D → (∀ s : Nat, (s : Int) < D 1 → 0 ≤ D (56 + 5 * s) ∧ D (56 + 5 * s) ≤ 1) → ((0 ≤ ar1.toInt ∧ ar1.toInt < D 1 ∧ 0 ≤ ar2.toInt ∧ ar2.toInt ≤ 4) → ((-1) : Int) = D (52 + 5 * ar1.toNatClampNeg + ar2.toNatClampNeg)) ∧ (¬ (0 ≤ ar1.toInt ∧ ar1.toInt < D 1 ∧ 0 ≤ ar2.toInt ∧ ar2.toInt ≤ 4) → ((-1) : Int) = -1) from (by
                                                            intro u D hu hl hc hb h1
                                                            have hm := hc.2.2.1.1
                                                            exact ⟨fun h => absurd h (by omega), fun _ => rfl⟩))⟩⟩
  · have l4 : 0 ≤ ar1.toInt := t_lel (t_nlt h1) (by decide : (0:Int) ≤ (0:Int32).toInt)
    refine ev_loc f_X11_isShip (nx := 5) rfl rfl rfl rfl ?_
    refine ev_loc f_X11_isShip (nx := 6) rfl rfl rfl rfl ?_
    obtain ⟨a5, e5, p5⟩ := hI.2.2.2.1.1
    refine ev_getR f_X11_isShip (nx := 9) rfl (hI.wf.s rfl) rfl rfl e5 rfl rfl ?_
    obtain ⟨a6, e6, p6⟩ := p5.2.2.2.2.1
    refine ev_getR f_X11_isShip (nx := 12) rfl p5.1 rfl rfl e6 rfl rfl ?_
    refine ev_getI f_X11_isShip (nx := 15) rfl p6.1 rfl rfl rfl ?_
    obtain ⟨l7, u7⟩ := hI.b p6.1 (t_bdK rfl : t_bd 3 0 = some (0, 6))
    refine ev_if f_X11_isShip (t1 := 22) (t2 := 18) rfl rfl rfl (fun h8 => ?_) (fun h8 => ?_)
    · have r9 : (gi a6 0).toInt ≤ ar1.toInt := Int32.le_iff_toInt_le.mp h8
      refine ev_ic f_X11_isShip (nx := 23) (v := 0) rfl (by decide) rfl ?_
      refine ev_retK1 f_X11_isShip rfl rfl rfl ?_
      refine ev_t f_X11_ship (t1 := 8) (t2 := 14) rfl rfl rfl (by decide) ?_
      refine ev_loc f_X11_ship (nx := 9) rfl rfl rfl rfl ?_
      refine ev_ic f_X11_ship (nx := 10) (v := 1) rfl (by decide) rfl ?_
      refine ev_inV2 f_X11_ship (nx := 13) (lo2 := [(0, .ref 0), (1, .int 1)]) rfl rfl rfl rfl f_X11_refuse (hI.wf.s rfl) rfl rfl rfl rfl rfl ?_
      refine ev_loc f_X11_refuse (nx := 1) rfl rfl rfl rfl ?_
      refine ev_loc f_X11_refuse (nx := 2) rfl rfl rfl rfl ?_
      refine ev_putIT f_X11_refuse (nx := 5) rfl (hI.wf.s rfl) rfl rfl rfl (hI.put0 (hI.wf.s rfl) rfl rfl) (hX.upI rfl) (fun g10 e10 hI hX => ?_)
      refine ev_ic f_X11_refuse (nx := 6) (v := -1) rfl (by decide) rfl ?_
      refine ev_retK1 f_X11_refuse rfl rfl rfl ?_
      exact ev_ret f_X11_ship rfl rfl rfl ⟨_, _, _, rfl, hI, hX, ⟨_, rfl, (Int.le_trans (by decide : ((-2147483648):Int) ≤ (-1)) (by decide : ((-1):Int) ≤ ((-1):Int32).toInt)), (Int.le_trans (by decide : ((-1):Int32).toInt ≤ ((-1):Int)) (by decide : ((-1):Int) ≤ 2147483647)), (show ∀ (u : Nat) (D : s_D), gr 0 6 = .ref u → t_VL gr u → t_CV gi gl u D → t_Cb D → (∀ s : Nat, (s : Int) < D 1 → 0 ≤ D (56 + 5 * s) ∧ D (56 + 5 * s) ≤ 1) → ((0 ≤ ar1.toInt ∧ ar1.toInt < D 1 ∧ 0 ≤ ar2.toInt ∧ ar2.toInt ≤ 4) → ((-1) : Int) = D (52 + 5 * ar1.toNatClampNeg + ar2.toNatClampNeg)) ∧ (¬ (0 ≤ ar1.toInt ∧ ar1.toInt < D 1 ∧ 0 ≤ ar2.toInt ∧ ar2.toInt ≤ 4) → ((-1) : Int) = -1) from (by
                                                            intro u D hu hl hc hb h1
                                                            have ha : a5 = u := Value.ref.inj (e5.symm.trans hu)
                                                            subst ha
                                                            have hb1 : (a5 + 3) = a6 := Value.ref.inj ((hl.1.2.2.2.1).symm.trans e6)
                                                            subst hb1
                                                            have hm := hc.2.2.1.1
                                                            exact ⟨fun h => absurd h (by omega), fun _ => rfl⟩))⟩⟩
    · have r11 : ar1.toInt < (gi a6 0).toInt := Int32.lt_iff_toInt_lt.mp (t_nle h8)
      have u12 : ar1.toInt ≤ 5 := t_ltu (t_nle h8) u7 rfl
      have l13 : 1 ≤ (gi a6 0).toInt := t_ltl (t_nle h8) l4 rfl
      refine ev_ic f_X11_isShip (nx := 19) (v := 1) rfl (by decide) rfl ?_
      refine ev_jmp f_X11_isShip (nx := 23) rfl rfl rfl ?_
      refine ev_retK1 f_X11_isShip rfl rfl rfl ?_
      refine ev_f f_X11_ship (t1 := 8) (t2 := 14) rfl rfl rfl (by decide) ?_
      refine ev_loc f_X11_ship (nx := 15) rfl rfl rfl rfl ?_
      have h14 : ar2.toInt = 0 ∨ ar2.toInt = 1 ∨ ar2.toInt = 2 ∨ ar2.toInt = 3 ∨ ar2.toInt = 4 ∨ (ar2.toInt ≠ 0 ∧ ar2.toInt ≠ 1 ∧ ar2.toInt ≠ 2 ∧ ar2.toInt ≠ 3 ∧ ar2.toInt ≠ 4) := by have := (t_lo ar2); have := (t_hi ar2); omega
      rcases h14 with h14 | h14 | h14 | h14 | h14 | h14
      · refine ev_swt f_X11_ship (nx := 48) (c := 0) rfl h14 rfl ?_
        refine ev_loc f_X11_ship (nx := 49) rfl rfl rfl rfl ?_
        refine ev_loc f_X11_ship (nx := 50) rfl rfl rfl rfl ?_
        refine ev_getR f_X11_ship (nx := 53) (v := .ref a5) rfl (hI.wf.s rfl) rfl rfl e5 rfl rfl ?_
        obtain ⟨a15, e15, s15, o15⟩ := p5.2.2.2.1
        refine ev_getR f_X11_ship (nx := 56) rfl p5.1 rfl rfl e15 rfl rfl ?_
        refine ev_loc f_X11_ship (nx := 57) rfl rfl rfl rfl ?_
        refine ev_ialdT f_X11_ship (nx := 58) rfl s15 l4 (by decide) u12 (by decide) rfl (fun w16 e16 => ?_)
        refine ev_inV2 f_X11_ship (nx := 61) (lo2 := [(0, .ref 0), (1, .int w16)]) rfl rfl rfl rfl f_X11_answer (hI.wf.s rfl) rfl rfl rfl rfl rfl ?_
        refine ev_loc f_X11_answer (nx := 1) rfl rfl rfl rfl ?_
        refine ev_ic f_X11_answer (nx := 2) (v := 0) rfl (by decide) rfl ?_
        refine ev_putIT f_X11_answer (nx := 5) rfl (hI.wf.s rfl) rfl rfl rfl (hI.put0 (hI.wf.s rfl) rfl rfl) (hX.upI rfl) (fun g17 e17 hI hX => ?_)
        refine ev_loc f_X11_answer (nx := 6) rfl rfl rfl rfl ?_
        refine ev_retK1 f_X11_answer rfl rfl rfl ?_
        exact ev_ret f_X11_ship rfl rfl rfl ⟨_, _, _, rfl, hI, hX, ⟨_, rfl, (t_lo w16), (t_hi w16), (show ∀ (u : Nat) (D : s_D), gr 0 6 = .ref u → t_VL gr u → t_CV gi gl u D → t_Cb D → (∀ s : Nat, (s : Int) < D 1 → 0 ≤ D (56 + 5 * s) ∧ D (56 + 5 * s) ≤ 1) → ((0 ≤ ar1.toInt ∧ ar1.toInt < D 1 ∧ 0 ≤ ar2.toInt ∧ ar2.toInt ≤ 4) → w16.toInt = D (52 + 5 * ar1.toNatClampNeg + ar2.toNatClampNeg)) ∧ (¬ (0 ≤ ar1.toInt ∧ ar1.toInt < D 1 ∧ 0 ≤ ar2.toInt ∧ ar2.toInt ≤ 4) → w16.toInt = -1) from (by
                                                            intro u D hu hl hc hb h1
                                                            have ha : a5 = u := Value.ref.inj (e5.symm.trans hu)
                                                            subst ha
                                                            have hb1 : (a5 + 3) = a6 := Value.ref.inj ((hl.1.2.2.2.1).symm.trans e6)
                                                            subst hb1
                                                            have hb2 : (a5 + 9) = a15 := Value.ref.inj ((hl.1.2.2.1).symm.trans e15)
                                                            subst hb2
                                                            have hm := hc.2.2.1.1
                                                            have ka := t_clamp (i := ar1) (by omega)
                                                            have kb := t_clamp (i := ar2) (by omega)
                                                            have hs := hc.2.2.1.2 ar1.toNatClampNeg (by omega)
                                                            refine ⟨fun _ => ?_, fun h => absurd (show _ from ⟨by omega, by omega, by omega, by omega⟩) h⟩
                                                            rw [show 52 + 5 * ar1.toNatClampNeg + ar2.toNatClampNeg = 52 + 5 * ar1.toNatClampNeg by omega]
                                                            rw [e16]; exact hs.1))⟩⟩
      · refine ev_swt f_X11_ship (nx := 62) (c := 1) rfl h14 rfl ?_
        refine ev_loc f_X11_ship (nx := 63) rfl rfl rfl rfl ?_
        refine ev_loc f_X11_ship (nx := 64) rfl rfl rfl rfl ?_
        refine ev_getR f_X11_ship (nx := 67) (v := .ref a5) rfl (hI.wf.s rfl) rfl rfl e5 rfl rfl ?_
        refine ev_getR f_X11_ship (nx := 70) (v := .ref a6) rfl p5.1 rfl rfl e6 rfl rfl ?_
        obtain ⟨a18, e18, s18, o18⟩ := p6.2.2.1
        refine ev_getR f_X11_ship (nx := 73) rfl p6.1 rfl rfl e18 rfl rfl ?_
        refine ev_loc f_X11_ship (nx := 74) rfl rfl rfl rfl ?_
        refine ev_ialdT f_X11_ship (nx := 75) rfl s18 l4 (by decide) u12 (by decide) rfl (fun w19 e19 => ?_)
        refine ev_inV2 f_X11_ship (nx := 78) (lo2 := [(0, .ref 0), (1, .int w19)]) rfl rfl rfl rfl f_X11_answer (hI.wf.s rfl) rfl rfl rfl rfl rfl ?_
        refine ev_loc f_X11_answer (nx := 1) rfl rfl rfl rfl ?_
        refine ev_ic f_X11_answer (nx := 2) (v := 0) rfl (by decide) rfl ?_
        refine ev_putIT f_X11_answer (nx := 5) rfl (hI.wf.s rfl) rfl rfl rfl (hI.put0 (hI.wf.s rfl) rfl rfl) (hX.upI rfl) (fun g20 e20 hI hX => ?_)
        refine ev_loc f_X11_answer (nx := 6) rfl rfl rfl rfl ?_
        refine ev_retK1 f_X11_answer rfl rfl rfl ?_
        exact ev_ret f_X11_ship rfl rfl rfl ⟨_, _, _, rfl, hI, hX, ⟨_, rfl, (t_lo w19), (t_hi w19), (show ∀ (u : Nat) (D : s_D), gr 0 6 = .ref u → t_VL gr u → t_CV gi gl u D → t_Cb D → (∀ s : Nat, (s : Int) < D 1 → 0 ≤ D (56 + 5 * s) ∧ D (56 + 5 * s) ≤ 1) → ((0 ≤ ar1.toInt ∧ ar1.toInt < D 1 ∧ 0 ≤ ar2.toInt ∧ ar2.toInt ≤ 4) → w19.toInt = D (52 + 5 * ar1.toNatClampNeg + ar2.toNatClampNeg)) ∧ (¬ (0 ≤ ar1.toInt ∧ ar1.toInt < D 1 ∧ 0 ≤ ar2.toInt ∧ ar2.toInt ≤ 4) → w19.toInt = -1) from (by
                                                            intro u D hu hl hc hb h1
                                                            have ha : a5 = u := Value.ref.inj (e5.symm.trans hu)
                                                            subst ha
                                                            have hb1 : (a5 + 3) = a6 := Value.ref.inj ((hl.1.2.2.2.1).symm.trans e6)
                                                            subst hb1
                                                            have hb2 : (a5 + 3 + 2) = a18 := Value.ref.inj ((hl.2.1.2.1).symm.trans e18)
                                                            subst hb2
                                                            have hm := hc.2.2.1.1
                                                            have ka := t_clamp (i := ar1) (by omega)
                                                            have kb := t_clamp (i := ar2) (by omega)
                                                            have hs := hc.2.2.1.2 ar1.toNatClampNeg (by omega)
                                                            refine ⟨fun _ => ?_, fun h => absurd (show _ from ⟨by omega, by omega, by omega, by omega⟩) h⟩
                                                            rw [show 52 + 5 * ar1.toNatClampNeg + ar2.toNatClampNeg = 53 + 5 * ar1.toNatClampNeg by omega]
                                                            rw [e19]; exact hs.2.1))⟩⟩
      · refine ev_swt f_X11_ship (nx := 79) (c := 2) rfl h14 rfl ?_
        refine ev_loc f_X11_ship (nx := 80) rfl rfl rfl rfl ?_
        refine ev_loc f_X11_ship (nx := 81) rfl rfl rfl rfl ?_
        refine ev_getR f_X11_ship (nx := 84) (v := .ref a5) rfl (hI.wf.s rfl) rfl rfl e5 rfl rfl ?_
        refine ev_getR f_X11_ship (nx := 87) (v := .ref a6) rfl p5.1 rfl rfl e6 rfl rfl ?_
        obtain ⟨a21, e21, s21, o21⟩ := p6.2.2.2.1
        refine ev_getR f_X11_ship (nx := 90) rfl p6.1 rfl rfl e21 rfl rfl ?_
        refine ev_loc f_X11_ship (nx := 91) rfl rfl rfl rfl ?_
        refine ev_ialdT f_X11_ship (nx := 92) rfl s21 l4 (by decide) u12 (by decide) rfl (fun w22 e22 => ?_)
        refine ev_inV2 f_X11_ship (nx := 95) (lo2 := [(0, .ref 0), (1, .int w22)]) rfl rfl rfl rfl f_X11_answer (hI.wf.s rfl) rfl rfl rfl rfl rfl ?_
        refine ev_loc f_X11_answer (nx := 1) rfl rfl rfl rfl ?_
        refine ev_ic f_X11_answer (nx := 2) (v := 0) rfl (by decide) rfl ?_
        refine ev_putIT f_X11_answer (nx := 5) rfl (hI.wf.s rfl) rfl rfl rfl (hI.put0 (hI.wf.s rfl) rfl rfl) (hX.upI rfl) (fun g23 e23 hI hX => ?_)
        refine ev_loc f_X11_answer (nx := 6) rfl rfl rfl rfl ?_
        refine ev_retK1 f_X11_answer rfl rfl rfl ?_
        exact ev_ret f_X11_ship rfl rfl rfl ⟨_, _, _, rfl, hI, hX, ⟨_, rfl, (t_lo w22), (t_hi w22), (show ∀ (u : Nat) (D : s_D), gr 0 6 = .ref u → t_VL gr u → t_CV gi gl u D → t_Cb D → (∀ s : Nat, (s : Int) < D 1 → 0 ≤ D (56 + 5 * s) ∧ D (56 + 5 * s) ≤ 1) → ((0 ≤ ar1.toInt ∧ ar1.toInt < D 1 ∧ 0 ≤ ar2.toInt ∧ ar2.toInt ≤ 4) → w22.toInt = D (52 + 5 * ar1.toNatClampNeg + ar2.toNatClampNeg)) ∧ (¬ (0 ≤ ar1.toInt ∧ ar1.toInt < D 1 ∧ 0 ≤ ar2.toInt ∧ ar2.toInt ≤ 4) → w22.toInt = -1) from (by
                                                            intro u D hu hl hc hb h1
                                                            have ha : a5 = u := Value.ref.inj (e5.symm.trans hu)
                                                            subst ha
                                                            have hb1 : (a5 + 3) = a6 := Value.ref.inj ((hl.1.2.2.2.1).symm.trans e6)
                                                            subst hb1
                                                            have hb2 : (a5 + 3 + 3) = a21 := Value.ref.inj ((hl.2.1.2.2.1).symm.trans e21)
                                                            subst hb2
                                                            have hm := hc.2.2.1.1
                                                            have ka := t_clamp (i := ar1) (by omega)
                                                            have kb := t_clamp (i := ar2) (by omega)
                                                            have hs := hc.2.2.1.2 ar1.toNatClampNeg (by omega)
                                                            refine ⟨fun _ => ?_, fun h => absurd (show _ from ⟨by omega, by omega, by omega, by omega⟩) h⟩
                                                            rw [show 52 + 5 * ar1.toNatClampNeg + ar2.toNatClampNeg = 54 + 5 * ar1.toNatClampNeg by omega]
                                                            rw [e22]; exact hs.2.2.1))⟩⟩
      · refine ev_swt f_X11_ship (nx := 96) (c := 3) rfl h14 rfl ?_
        refine ev_loc f_X11_ship (nx := 97) rfl rfl rfl rfl ?_
        refine ev_loc f_X11_ship (nx := 98) rfl rfl rfl rfl ?_
        refine ev_getR f_X11_ship (nx := 101) (v := .ref a5) rfl (hI.wf.s rfl) rfl rfl e5 rfl rfl ?_
        refine ev_getR f_X11_ship (nx := 104) (v := .ref a6) rfl p5.1 rfl rfl e6 rfl rfl ?_
        obtain ⟨a24, e24, s24, o24⟩ := p6.2.2.2.2.1
        refine ev_getR f_X11_ship (nx := 107) rfl p6.1 rfl rfl e24 rfl rfl ?_
        refine ev_loc f_X11_ship (nx := 108) rfl rfl rfl rfl ?_
        refine ev_ialdT f_X11_ship (nx := 109) rfl s24 l4 (by decide) u12 (by decide) rfl (fun w25 e25 => ?_)
        refine ev_inV2 f_X11_ship (nx := 112) (lo2 := [(0, .ref 0), (1, .int w25)]) rfl rfl rfl rfl f_X11_answer (hI.wf.s rfl) rfl rfl rfl rfl rfl ?_
        refine ev_loc f_X11_answer (nx := 1) rfl rfl rfl rfl ?_
        refine ev_ic f_X11_answer (nx := 2) (v := 0) rfl (by decide) rfl ?_
        refine ev_putIT f_X11_answer (nx := 5) rfl (hI.wf.s rfl) rfl rfl rfl (hI.put0 (hI.wf.s rfl) rfl rfl) (hX.upI rfl) (fun g26 e26 hI hX => ?_)
        refine ev_loc f_X11_answer (nx := 6) rfl rfl rfl rfl ?_
        refine ev_retK1 f_X11_answer rfl rfl rfl ?_
        exact ev_ret f_X11_ship rfl rfl rfl ⟨_, _, _, rfl, hI, hX, ⟨_, rfl, (t_lo w25), (t_hi w25), (show ∀ (u : Nat) (D : s_D), gr 0 6 = .ref u → t_VL gr u → t_CV gi gl u D → t_Cb D → (∀ s : Nat, (s : Int) < D 1 → 0 ≤ D (56 + 5 * s) ∧ D (56 + 5 * s) ≤ 1) → ((0 ≤ ar1.toInt ∧ ar1.toInt < D 1 ∧ 0 ≤ ar2.toInt ∧ ar2.toInt ≤ 4) → w25.toInt = D (52 + 5 * ar1.toNatClampNeg + ar2.toNatClampNeg)) ∧ (¬ (0 ≤ ar1.toInt ∧ ar1.toInt < D 1 ∧ 0 ≤ ar2.toInt ∧ ar2.toInt ≤ 4) → w25.toInt = -1) from (by
                                                            intro u D hu hl hc hb h1
                                                            have ha : a5 = u := Value.ref.inj (e5.symm.trans hu)
                                                            subst ha
                                                            have hb1 : (a5 + 3) = a6 := Value.ref.inj ((hl.1.2.2.2.1).symm.trans e6)
                                                            subst hb1
                                                            have hb2 : (a5 + 3 + 4) = a24 := Value.ref.inj ((hl.2.1.2.2.2.1).symm.trans e24)
                                                            subst hb2
                                                            have hm := hc.2.2.1.1
                                                            have ka := t_clamp (i := ar1) (by omega)
                                                            have kb := t_clamp (i := ar2) (by omega)
                                                            have hs := hc.2.2.1.2 ar1.toNatClampNeg (by omega)
                                                            refine ⟨fun _ => ?_, fun h => absurd (show _ from ⟨by omega, by omega, by omega, by omega⟩) h⟩
                                                            rw [show 52 + 5 * ar1.toNatClampNeg + ar2.toNatClampNeg = 55 + 5 * ar1.toNatClampNeg by omega]
                                                            rw [e25]; exact hs.2.2.2.1))⟩⟩
      · refine ev_swt f_X11_ship (nx := 113) (c := 4) rfl h14 rfl ?_
        refine ev_loc f_X11_ship (nx := 114) rfl rfl rfl rfl ?_
        refine ev_loc f_X11_ship (nx := 115) rfl rfl rfl rfl ?_
        refine ev_getR f_X11_ship (nx := 118) (v := .ref a5) rfl (hI.wf.s rfl) rfl rfl e5 rfl rfl ?_
        refine ev_getR f_X11_ship (nx := 121) (v := .ref a6) rfl p5.1 rfl rfl e6 rfl rfl ?_
        obtain ⟨a27, e27, s27, o27⟩ := p6.2.2.2.2.2
        refine ev_getR f_X11_ship (nx := 124) rfl p6.1 rfl rfl e27 rfl rfl ?_
        refine ev_loc f_X11_ship (nx := 125) rfl rfl rfl rfl ?_
        refine ev_baldT f_X11_ship (nx := 126) rfl s27 rfl l4 (by decide) u12 (by decide) rfl (fun w28 e28 => ?_)
        refine ev_if f_X11_ship (t1 := 133) (t2 := 129) rfl rfl rfl (fun h29 => ?_) (fun h29 => ?_)
        · have u30 : w28.toInt ≤ 0 := t_equ h29 (by decide : (0:Int32).toInt ≤ (0:Int))
          have l31 : 0 ≤ w28.toInt := t_eql h29 (by decide : (0:Int) ≤ (0:Int32).toInt)
          refine ev_ic f_X11_ship (nx := 134) (v := 0) rfl (by decide) rfl ?_
          refine ev_inV2 f_X11_ship (nx := 137) (lo2 := [(0, .ref 0), (1, .int 0)]) rfl rfl rfl rfl f_X11_answer (hI.wf.s rfl) rfl rfl rfl rfl rfl ?_
          refine ev_loc f_X11_answer (nx := 1) rfl rfl rfl rfl ?_
          refine ev_ic f_X11_answer (nx := 2) (v := 0) rfl (by decide) rfl ?_
          refine ev_putIT f_X11_answer (nx := 5) rfl (hI.wf.s rfl) rfl rfl rfl (hI.put0 (hI.wf.s rfl) rfl rfl) (hX.upI rfl) (fun g32 e32 hI hX => ?_)
          refine ev_loc f_X11_answer (nx := 6) rfl rfl rfl rfl ?_
          refine ev_retK1 f_X11_answer rfl rfl rfl ?_
          exact ev_ret f_X11_ship rfl rfl rfl ⟨_, _, _, rfl, hI, hX, ⟨_, rfl, (Int.le_trans (by decide : ((-2147483648):Int) ≤ 0) (by decide : (0:Int) ≤ (0:Int32).toInt)), (Int.le_trans (by decide : (0:Int32).toInt ≤ (0:Int)) (by decide : (0:Int) ≤ 2147483647)), (show ∀ (u : Nat) (D : s_D), gr 0 6 = .ref u → t_VL gr u → t_CV gi gl u D → t_Cb D → (∀ s : Nat, (s : Int) < D 1 → 0 ≤ D (56 + 5 * s) ∧ D (56 + 5 * s) ≤ 1) → ((0 ≤ ar1.toInt ∧ ar1.toInt < D 1 ∧ 0 ≤ ar2.toInt ∧ ar2.toInt ≤ 4) → (0 : Int) = D (52 + 5 * ar1.toNatClampNeg + ar2.toNatClampNeg)) ∧ (¬ (0 ≤ ar1.toInt ∧ ar1.toInt < D 1 ∧ 0 ≤ ar2.toInt ∧ ar2.toInt ≤ 4) → (0 : Int) = -1) from (by
                                                            intro u D hu hl hc hb h1
                                                            have ha : a5 = u := Value.ref.inj (e5.symm.trans hu)
                                                            subst ha
                                                            have hb1 : (a5 + 3) = a6 := Value.ref.inj ((hl.1.2.2.2.1).symm.trans e6)
                                                            subst hb1
                                                            have hb2 : (a5 + 3 + 5) = a27 := Value.ref.inj ((hl.2.1.2.2.2.2).symm.trans e27)
                                                            subst hb2
                                                            have hm := hc.2.2.1.1
                                                            have ka := t_clamp (i := ar1) (by omega)
                                                            have kb := t_clamp (i := ar2) (by omega)
                                                            have hs := hc.2.2.1.2 ar1.toNatClampNeg (by omega)
                                                            refine ⟨fun _ => ?_, fun h => absurd (show _ from ⟨by omega, by omega, by omega, by omega⟩) h⟩
                                                            rw [show 52 + 5 * ar1.toNatClampNeg + ar2.toNatClampNeg = 56 + 5 * ar1.toNatClampNeg by omega]
                                                            have hw : w28.toInt = D (56 + 5 * ar1.toNatClampNeg) := by rw [e28]; exact hs.2.2.2.2
                                                            have h2 := h1 ar1.toNatClampNeg (by omega)
                                                            rw [← hw] at h2 ⊢
                                                            have k1 : (1 : Int32).toInt = 1 := rfl
                                                            have k0 : (0 : Int32).toInt = 0 := rfl
                                                            omega))⟩⟩
        · have r33 : w28.toInt ≠ 0 := fun e => h29 (Int32.toInt_inj.mp (e.trans (by decide : (0:Int) = (0 : Int32).toInt)))
          refine ev_ic f_X11_ship (nx := 130) (v := 1) rfl (by decide) rfl ?_
          refine ev_jmp f_X11_ship (nx := 134) rfl rfl rfl ?_
          refine ev_inV2 f_X11_ship (nx := 137) (lo2 := [(0, .ref 0), (1, .int 1)]) rfl rfl rfl rfl f_X11_answer (hI.wf.s rfl) rfl rfl rfl rfl rfl ?_
          refine ev_loc f_X11_answer (nx := 1) rfl rfl rfl rfl ?_
          refine ev_ic f_X11_answer (nx := 2) (v := 0) rfl (by decide) rfl ?_
          refine ev_putIT f_X11_answer (nx := 5) rfl (hI.wf.s rfl) rfl rfl rfl (hI.put0 (hI.wf.s rfl) rfl rfl) (hX.upI rfl) (fun g34 e34 hI hX => ?_)
          refine ev_loc f_X11_answer (nx := 6) rfl rfl rfl rfl ?_
          refine ev_retK1 f_X11_answer rfl rfl rfl ?_
          exact ev_ret f_X11_ship rfl rfl rfl ⟨_, _, _, rfl, hI, hX, ⟨_, rfl, (Int.le_trans (by decide : ((-2147483648):Int) ≤ 1) (by decide : (1:Int) ≤ (1:Int32).toInt)), (Int.le_trans (by decide : (1:Int32).toInt ≤ (1:Int)) (by decide : (1:Int) ≤ 2147483647)), (show ∀ (u : Nat) (D : s_D), gr 0 6 = .ref u → t_VL gr u → t_CV gi gl u D → t_Cb D → (∀ s : Nat, (s : Int) < D 1 → 0 ≤ D (56 + 5 * s) ∧ D (56 + 5 * s) ≤ 1) → ((0 ≤ ar1.toInt ∧ ar1.toInt < D 1 ∧ 0 ≤ ar2.toInt ∧ ar2.toInt ≤ 4) → (1 : Int) = D (52 + 5 * ar1.toNatClampNeg + ar2.toNatClampNeg)) ∧ (¬ (0 ≤ ar1.toInt ∧ ar1.toInt < D 1 ∧ 0 ≤ ar2.toInt ∧ ar2.toInt ≤ 4) → (1 : Int) = -1) from (by
                                                            intro u D hu hl hc hb h1
                                                            have ha : a5 = u := Value.ref.inj (e5.symm.trans hu)
                                                            subst ha
                                                            have hb1 : (a5 + 3) = a6 := Value.ref.inj ((hl.1.2.2.2.1).symm.trans e6)
                                                            subst hb1
                                                            have hb2 : (a5 + 3 + 5) = a27 := Value.ref.inj ((hl.2.1.2.2.2.2).symm.trans e27)
                                                            subst hb2
                                                            have hm := hc.2.2.1.1
                                                            have ka := t_clamp (i := ar1) (by omega)
                                                            have kb := t_clamp (i := ar2) (by omega)
                                                            have hs := hc.2.2.1.2 ar1.toNatClampNeg (by omega)
                                                            refine ⟨fun _ => ?_, fun h => absurd (show _ from ⟨by omega, by omega, by omega, by omega⟩) h⟩
                                                            rw [show 52 + 5 * ar1.toNatClampNeg + ar2.toNatClampNeg = 56 + 5 * ar1.toNatClampNeg by omega]
                                                            have hw : w28.toInt = D (56 + 5 * ar1.toNatClampNeg) := by rw [e28]; exact hs.2.2.2.2
                                                            have h2 := h1 ar1.toNatClampNeg (by omega)
                                                            rw [← hw] at h2 ⊢
                                                            have k1 : (1 : Int32).toInt = 1 := rfl
                                                            have k0 : (0 : Int32).toInt = 0 := rfl
                                                            omega))⟩⟩
      · refine ev_swtd f_X11_ship (nx := 138) rfl (by omega) (by decide) rfl ?_
        refine ev_loc f_X11_ship (nx := 139) rfl rfl rfl rfl ?_
        refine ev_ic f_X11_ship (nx := 140) (v := 1) rfl (by decide) rfl ?_
        refine ev_inV2 f_X11_ship (nx := 143) (lo2 := [(0, .ref 0), (1, .int 1)]) rfl rfl rfl rfl f_X11_refuse (hI.wf.s rfl) rfl rfl rfl rfl rfl ?_
        refine ev_loc f_X11_refuse (nx := 1) rfl rfl rfl rfl ?_
        refine ev_loc f_X11_refuse (nx := 2) rfl rfl rfl rfl ?_
        refine ev_putIT f_X11_refuse (nx := 5) rfl (hI.wf.s rfl) rfl rfl rfl (hI.put0 (hI.wf.s rfl) rfl rfl) (hX.upI rfl) (fun g35 e35 hI hX => ?_)
        refine ev_ic f_X11_refuse (nx := 6) (v := -1) rfl (by decide) rfl ?_
        refine ev_retK1 f_X11_refuse rfl rfl rfl ?_
        exact ev_ret f_X11_ship rfl rfl rfl ⟨_, _, _, rfl, hI, hX, ⟨_, rfl, (Int.le_trans (by decide : ((-2147483648):Int) ≤ (-1)) (by decide : ((-1):Int) ≤ ((-1):Int32).toInt)), (Int.le_trans (by decide : ((-1):Int32).toInt ≤ ((-1):Int)) (by decide : ((-1):Int) ≤ 2147483647)), (show ∀ (u : Nat) (D : s_D), gr 0 6 = .ref u → t_VL gr u → t_CV gi gl u D → t_Cb D → (∀ s : Nat, (s : Int) < D 1 → 0 ≤ D (56 + 5 * s) ∧ D (56 + 5 * s) ≤ 1) → ((0 ≤ ar1.toInt ∧ ar1.toInt < D 1 ∧ 0 ≤ ar2.toInt ∧ ar2.toInt ≤ 4) → ((-1) : Int) = D (52 + 5 * ar1.toNatClampNeg + ar2.toNatClampNeg)) ∧ (¬ (0 ≤ ar1.toInt ∧ ar1.toInt < D 1 ∧ 0 ≤ ar2.toInt ∧ ar2.toInt ≤ 4) → ((-1) : Int) = -1) from (by
                                                            intro u D hu hl hc hb h1
                                                            have ha : a5 = u := Value.ref.inj (e5.symm.trans hu)
                                                            subst ha
                                                            have hb1 : (a5 + 3) = a6 := Value.ref.inj ((hl.1.2.2.2.1).symm.trans e6)
                                                            subst hb1
                                                            have hm := hc.2.2.1.1
                                                            exact ⟨fun h => absurd h (by omega), fun _ => rfl⟩))⟩⟩
noncomputable def wl_e_ship : List (Nat × Nat) := [(69, 2)]
noncomputable def Q_e_ship (gi : Nat → Nat → Int32) (gl : Nat → Nat → Int64) (gr : Nat → Nat → Value) (ar1 : Int32) (ar2 : Int32) : Int32 → (Nat → Nat → Int32) → (Nat → Nat → Int64) → (Nat → Nat → Value) → Prop := fun (v : Int32) (gi2 : Nat → Nat → Int32) (gl2 : Nat → Nat → Int64) (gr2 : Nat → Nat → Value) => ∀ (D : s_D), t_ME 0 gi D → t_Cb D → ((0 ≤ ar1.toInt ∧ ar1.toInt < D 1 ∧ 0 ≤ ar2.toInt ∧ ar2.toInt ≤ 4) → v.toInt = D (52 + 5 * ar1.toNatClampNeg + ar2.toNatClampNeg)) ∧ (¬ (0 ≤ ar1.toInt ∧ ar1.toInt < D 1 ∧ 0 ≤ ar2.toInt ∧ ar2.toInt ≤ 4) → v.toInt = -1)
theorem c_e_ship {X : x_Ext} {d : Nat} {sh : List (Nat ⊕ (Nat × Nat))} {gi : Nat → Nat → Int32} {gl : Nat → Nat → Int64} {gr : Nat → Nat → Value} (hI : t_I sh gi gr) (ar1 : Int32) (ar2 : Int32) : x_Me X (d + 2) n_X12_ship [.ref 69, .int ar1, .int ar2] (sh, gi, gl, gr) (t_PI wl_e_ship sh gi gl gr (-1) 120 (Q_e_ship gi gl gr ar1 ar2)) := by
  have hX : t_X wl_e_ship sh gi gl gr gi gl gr := t_X.rf
  refine me_i f_X12_ship (hI.wf.s rfl) rfl rfl rfl ?_
  refine ev_loc f_X12_ship (nx := 1) rfl rfl rfl rfl ?_
  refine ev_loc f_X12_ship (nx := 2) rfl rfl rfl rfl ?_
  refine ev_inV2 f_X12_ship (nx := 5) (lo2 := [(0, .ref 69), (1, .int ar1)]) rfl rfl rfl rfl f_X12_isShip (hI.wf.s rfl) rfl rfl rfl rfl rfl ?_
  refine ev_loc f_X12_isShip (nx := 1) rfl rfl rfl rfl ?_
  refine ev_if f_X12_isShip (t1 := 18) (t2 := 4) rfl rfl rfl (fun h1 => ?_) (fun h1 => ?_)
  · have u2 : ar1.toInt ≤ (-1) := t_ltu h1 (by decide : (0:Int32).toInt ≤ (0:Int)) rfl
    refine ev_ic f_X12_isShip (nx := 19) (v := 0) rfl (by decide) rfl ?_
    refine ev_retK1 f_X12_isShip rfl rfl rfl ?_
    refine ev_t f_X12_ship (t1 := 37) (t2 := 8) rfl rfl rfl (by decide) ?_
    refine ev_loc f_X12_ship (nx := 38) rfl rfl rfl rfl ?_
    refine ev_ic f_X12_ship (nx := 39) (v := 1) rfl (by decide) rfl ?_
    refine ev_inV2 f_X12_ship (nx := 42) (lo2 := [(0, .ref 69), (1, .int 1)]) rfl rfl rfl rfl f_X12_refuse (hI.wf.s rfl) rfl rfl rfl rfl rfl ?_
    refine ev_loc f_X12_refuse (nx := 1) rfl rfl rfl rfl ?_
    refine ev_loc f_X12_refuse (nx := 2) rfl rfl rfl rfl ?_
    refine ev_putIT f_X12_refuse (nx := 5) rfl (hI.wf.s rfl) rfl rfl rfl (hI.put0 (hI.wf.s rfl) rfl rfl) (hX.upI rfl) (fun g3 e3 hI hX => ?_)
    refine ev_ic f_X12_refuse (nx := 6) (v := -1) rfl (by decide) rfl ?_
    refine ev_retK1 f_X12_refuse rfl rfl rfl ?_
    exact ev_ret f_X12_ship rfl rfl rfl ⟨_, _, _, rfl, hI, hX, ⟨_, rfl, (by decide : ((-1):Int) ≤ ((-1):Int32).toInt), (Int.le_trans (by decide : ((-1):Int32).toInt ≤ ((-1):Int)) (by decide : ((-1):Int) ≤ 120)), (show ∀ (D : s_D), t_ME 0 gi D → t_Cb D → ((0 ≤ ar1.toInt ∧ ar1.toInt < D 1 ∧ 0 ≤ ar2.toInt ∧ ar2.toInt ≤ 4) → ((-1) : Int) = D (52 + 5 * ar1.toNatClampNeg + ar2.toNatClampNeg)) ∧ (¬ (0 ≤ ar1.toInt ∧ ar1.toInt < D 1 ∧ 0 ≤ ar2.toInt ∧ ar2.toInt ≤ 4) → ((-1) : Int) = -1) from (by
                                                            intro D hm hb
                                                            have ha : (gi 70 1).toInt = D 1 := hm.1.1.2.1
                                                            exact ⟨fun h => absurd h (by omega), fun _ => rfl⟩))⟩⟩
  · have l4 : 0 ≤ ar1.toInt := t_lel (t_nlt h1) (by decide : (0:Int) ≤ (0:Int32).toInt)
    refine ev_loc f_X12_isShip (nx := 5) rfl rfl rfl rfl ?_
    refine ev_loc f_X12_isShip (nx := 6) rfl rfl rfl rfl ?_
    refine ev_getR f_X12_isShip (nx := 9) rfl (hI.wf.s rfl) rfl rfl (hI.wf.r rfl) rfl rfl ?_
    refine ev_ic f_X12_isShip (nx := 10) (v := 1) rfl (by decide) rfl ?_
    obtain ⟨l5, u5⟩ := hI.ab (by decide +kernel : t_abr 70 1 1 0 6 = true) (Nat.le_refl _) (Nat.le_refl _)
    refine ev_ialdv f_X12_isShip (nx := 11) (w := (gi 70 1)) rfl (hI.wf.s rfl) (by decide) (rfl : (1 : Int32).toNatClampNeg = 1) (by decide) rfl rfl ?_
    refine ev_if f_X12_isShip (t1 := 18) (t2 := 14) rfl rfl rfl (fun h6 => ?_) (fun h6 => ?_)
    · have r7 : (gi 70 1).toInt ≤ ar1.toInt := Int32.le_iff_toInt_le.mp h6
      refine ev_ic f_X12_isShip (nx := 19) (v := 0) rfl (by decide) rfl ?_
      refine ev_retK1 f_X12_isShip rfl rfl rfl ?_
      refine ev_t f_X12_ship (t1 := 37) (t2 := 8) rfl rfl rfl (by decide) ?_
      refine ev_loc f_X12_ship (nx := 38) rfl rfl rfl rfl ?_
      refine ev_ic f_X12_ship (nx := 39) (v := 1) rfl (by decide) rfl ?_
      refine ev_inV2 f_X12_ship (nx := 42) (lo2 := [(0, .ref 69), (1, .int 1)]) rfl rfl rfl rfl f_X12_refuse (hI.wf.s rfl) rfl rfl rfl rfl rfl ?_
      refine ev_loc f_X12_refuse (nx := 1) rfl rfl rfl rfl ?_
      refine ev_loc f_X12_refuse (nx := 2) rfl rfl rfl rfl ?_
      refine ev_putIT f_X12_refuse (nx := 5) rfl (hI.wf.s rfl) rfl rfl rfl (hI.put0 (hI.wf.s rfl) rfl rfl) (hX.upI rfl) (fun g8 e8 hI hX => ?_)
      refine ev_ic f_X12_refuse (nx := 6) (v := -1) rfl (by decide) rfl ?_
      refine ev_retK1 f_X12_refuse rfl rfl rfl ?_
      exact ev_ret f_X12_ship rfl rfl rfl ⟨_, _, _, rfl, hI, hX, ⟨_, rfl, (by decide : ((-1):Int) ≤ ((-1):Int32).toInt), (Int.le_trans (by decide : ((-1):Int32).toInt ≤ ((-1):Int)) (by decide : ((-1):Int) ≤ 120)), (show ∀ (D : s_D), t_ME 0 gi D → t_Cb D → ((0 ≤ ar1.toInt ∧ ar1.toInt < D 1 ∧ 0 ≤ ar2.toInt ∧ ar2.toInt ≤ 4) → ((-1) : Int) = D (52 + 5 * ar1.toNatClampNeg + ar2.toNatClampNeg)) ∧ (¬ (0 ≤ ar1.toInt ∧ ar1.toInt < D 1 ∧ 0 ≤ ar2.toInt ∧ ar2.toInt ≤ 4) → ((-1) : Int) = -1) from (by
                                                            intro D hm hb
                                                            have ha : (gi 70 1).toInt = D 1 := hm.1.1.2.1
                                                            exact ⟨fun h => absurd h (by omega), fun _ => rfl⟩))⟩⟩
    · have r9 : ar1.toInt < (gi 70 1).toInt := Int32.lt_iff_toInt_lt.mp (t_nle h6)
      have u10 : ar1.toInt ≤ 5 := t_ltu (t_nle h6) u5 rfl
      have l11 : 1 ≤ (gi 70 1).toInt := t_ltl (t_nle h6) l4 rfl
      refine ev_ic f_X12_isShip (nx := 15) (v := 1) rfl (by decide) rfl ?_
      refine ev_jmp f_X12_isShip (nx := 19) rfl rfl rfl ?_
      refine ev_retK1 f_X12_isShip rfl rfl rfl ?_
      refine ev_f f_X12_ship (t1 := 37) (t2 := 8) rfl rfl rfl (by decide) ?_
      refine ev_loc f_X12_ship (nx := 9) rfl rfl rfl rfl ?_
      refine ev_if f_X12_ship (t1 := 37) (t2 := 12) rfl rfl rfl (fun h12 => ?_) (fun h12 => ?_)
      · have u13 : ar2.toInt ≤ (-1) := t_ltu h12 (by decide : (0:Int32).toInt ≤ (0:Int)) rfl
        refine ev_loc f_X12_ship (nx := 38) rfl rfl rfl rfl ?_
        refine ev_ic f_X12_ship (nx := 39) (v := 1) rfl (by decide) rfl ?_
        refine ev_inV2 f_X12_ship (nx := 42) (lo2 := [(0, .ref 69), (1, .int 1)]) rfl rfl rfl rfl f_X12_refuse (hI.wf.s rfl) rfl rfl rfl rfl rfl ?_
        refine ev_loc f_X12_refuse (nx := 1) rfl rfl rfl rfl ?_
        refine ev_loc f_X12_refuse (nx := 2) rfl rfl rfl rfl ?_
        refine ev_putIT f_X12_refuse (nx := 5) rfl (hI.wf.s rfl) rfl rfl rfl (hI.put0 (hI.wf.s rfl) rfl rfl) (hX.upI rfl) (fun g14 e14 hI hX => ?_)
        refine ev_ic f_X12_refuse (nx := 6) (v := -1) rfl (by decide) rfl ?_
        refine ev_retK1 f_X12_refuse rfl rfl rfl ?_
        exact ev_ret f_X12_ship rfl rfl rfl ⟨_, _, _, rfl, hI, hX, ⟨_, rfl, (by decide : ((-1):Int) ≤ ((-1):Int32).toInt), (Int.le_trans (by decide : ((-1):Int32).toInt ≤ ((-1):Int)) (by decide : ((-1):Int) ≤ 120)), (show ∀ (D : s_D), t_ME 0 gi D → t_Cb D → ((0 ≤ ar1.toInt ∧ ar1.toInt < D 1 ∧ 0 ≤ ar2.toInt ∧ ar2.toInt ≤ 4) → ((-1) : Int) = D (52 + 5 * ar1.toNatClampNeg + ar2.toNatClampNeg)) ∧ (¬ (0 ≤ ar1.toInt ∧ ar1.toInt < D 1 ∧ 0 ≤ ar2.toInt ∧ ar2.toInt ≤ 4) → ((-1) : Int) = -1) from (by
                                                            intro D hm hb
                                                            have ha : (gi 70 1).toInt = D 1 := hm.1.1.2.1
                                                            exact ⟨fun h => absurd h (by omega), fun _ => rfl⟩))⟩⟩
      · have l15 : 0 ≤ ar2.toInt := t_lel (t_nlt h12) (by decide : (0:Int) ≤ (0:Int32).toInt)
        refine ev_loc f_X12_ship (nx := 13) rfl rfl rfl rfl ?_
        refine ev_ic f_X12_ship (nx := 14) (v := 4) rfl (by decide) rfl ?_
        refine ev_if f_X12_ship (t1 := 37) (t2 := 17) rfl rfl rfl (fun h16 => ?_) (fun h16 => ?_)
        · have l17 : 5 ≤ ar2.toInt := t_ltl h16 (by decide : (4:Int) ≤ (4:Int32).toInt) rfl
          refine ev_loc f_X12_ship (nx := 38) rfl rfl rfl rfl ?_
          refine ev_ic f_X12_ship (nx := 39) (v := 1) rfl (by decide) rfl ?_
          refine ev_inV2 f_X12_ship (nx := 42) (lo2 := [(0, .ref 69), (1, .int 1)]) rfl rfl rfl rfl f_X12_refuse (hI.wf.s rfl) rfl rfl rfl rfl rfl ?_
          refine ev_loc f_X12_refuse (nx := 1) rfl rfl rfl rfl ?_
          refine ev_loc f_X12_refuse (nx := 2) rfl rfl rfl rfl ?_
          refine ev_putIT f_X12_refuse (nx := 5) rfl (hI.wf.s rfl) rfl rfl rfl (hI.put0 (hI.wf.s rfl) rfl rfl) (hX.upI rfl) (fun g18 e18 hI hX => ?_)
          refine ev_ic f_X12_refuse (nx := 6) (v := -1) rfl (by decide) rfl ?_
          refine ev_retK1 f_X12_refuse rfl rfl rfl ?_
          exact ev_ret f_X12_ship rfl rfl rfl ⟨_, _, _, rfl, hI, hX, ⟨_, rfl, (by decide : ((-1):Int) ≤ ((-1):Int32).toInt), (Int.le_trans (by decide : ((-1):Int32).toInt ≤ ((-1):Int)) (by decide : ((-1):Int) ≤ 120)), (show ∀ (D : s_D), t_ME 0 gi D → t_Cb D → ((0 ≤ ar1.toInt ∧ ar1.toInt < D 1 ∧ 0 ≤ ar2.toInt ∧ ar2.toInt ≤ 4) → ((-1) : Int) = D (52 + 5 * ar1.toNatClampNeg + ar2.toNatClampNeg)) ∧ (¬ (0 ≤ ar1.toInt ∧ ar1.toInt < D 1 ∧ 0 ≤ ar2.toInt ∧ ar2.toInt ≤ 4) → ((-1) : Int) = -1) from (by
                                                            intro D hm hb
                                                            have ha : (gi 70 1).toInt = D 1 := hm.1.1.2.1
                                                            exact ⟨fun h => absurd h (by omega), fun _ => rfl⟩))⟩⟩
        · have u19 : ar2.toInt ≤ 4 := t_leu (t_nlt h16) (by decide : (4:Int32).toInt ≤ (4:Int))
          refine ev_loc f_X12_ship (nx := 18) rfl rfl rfl rfl ?_
          refine ev_loc f_X12_ship (nx := 19) rfl rfl rfl rfl ?_
          refine ev_getR f_X12_ship (nx := 22) rfl (hI.wf.s rfl) rfl rfl (hI.wf.r rfl) rfl rfl ?_
          refine ev_bp f_X12_ship (nx := 24) (v := 52) rfl (by decide) rfl ?_
          refine ev_ic f_X12_ship (nx := 25) (v := 5) rfl (by decide) rfl ?_
          refine ev_loc f_X12_ship (nx := 26) rfl rfl rfl rfl ?_
          refine ev_mulL f_X12_ship (nx := 27) (c := 5) (l := 0) (u := 25) rfl (by decide) (by decide) l4 u10 rfl rfl (by decide) (by decide) rfl (fun z20 e20 l20 u20 => ?_)
          refine ev_addK f_X12_ship (nx := 28) (c := 52) (l := 52) (u := 77) rfl (by decide) l20 u20 rfl rfl (by decide) (by decide) rfl (fun z21 e21 l21 u21 => ?_)
          refine ev_loc f_X12_ship (nx := 29) rfl rfl rfl rfl ?_
          refine ev_addR f_X12_ship (nx := 30) (l := 52) (u := 81) rfl l21 u21 l15 u19 rfl rfl (by decide) (by decide) rfl (fun z22 e22 l22 u22 => ?_)
          refine ev_ialdT f_X12_ship (nx := 31) rfl (hI.wf.s rfl) l22 (by decide) u22 (by decide) rfl (fun w23 e23 => ?_)
          obtain ⟨l23, u23⟩ := hI.abi e23 (by decide +kernel : t_abr 70 52 81 (-1) 120 = true) l22 (by decide) u22 (by decide)
          refine ev_inV2 f_X12_ship (nx := 34) (lo2 := [(0, .ref 69), (1, .int w23)]) rfl rfl rfl rfl f_X12_gives (hI.wf.s rfl) rfl rfl rfl rfl rfl ?_
          refine ev_loc f_X12_gives (nx := 1) rfl rfl rfl rfl ?_
          refine ev_ic f_X12_gives (nx := 2) (v := 0) rfl (by decide) rfl ?_
          refine ev_putIT f_X12_gives (nx := 5) rfl (hI.wf.s rfl) rfl rfl rfl (hI.put0 (hI.wf.s rfl) rfl rfl) (hX.upI rfl) (fun g24 e24 hI hX => ?_)
          refine ev_loc f_X12_gives (nx := 6) rfl rfl rfl rfl ?_
          refine ev_retK1 f_X12_gives rfl rfl rfl ?_
          refine ev_jmp f_X12_ship (nx := 42) rfl rfl rfl ?_
          exact ev_ret f_X12_ship rfl rfl rfl ⟨_, _, _, rfl, hI, hX, ⟨_, rfl, l23, u23, (show ∀ (D : s_D), t_ME 0 gi D → t_Cb D → ((0 ≤ ar1.toInt ∧ ar1.toInt < D 1 ∧ 0 ≤ ar2.toInt ∧ ar2.toInt ≤ 4) → w23.toInt = D (52 + 5 * ar1.toNatClampNeg + ar2.toNatClampNeg)) ∧ (¬ (0 ≤ ar1.toInt ∧ ar1.toInt < D 1 ∧ 0 ≤ ar2.toInt ∧ ar2.toInt ≤ 4) → w23.toInt = -1) from (by
                                                            intro D hm hb
                                                            have ha : (gi 70 1).toInt = D 1 := hm.1.1.2.1
                                                            have ka := t_clamp (i := ar1) (by omega)
                                                            have kb := t_clamp (i := ar2) (by omega)
                                                            have kc := t_clamp (i := z22) (by omega)
                                                            refine ⟨fun _ => ?_, fun h => absurd (show _ from ⟨by omega, by omega, by omega, by omega⟩) h⟩
                                                            have hd := hm.2.2.1 (52 + 5 * ar1.toNatClampNeg + ar2.toNatClampNeg) (by omega) (by omega)
                                                            rw [e23, show z22.toNatClampNeg = 0 + (52 + 5 * ar1.toNatClampNeg + ar2.toNatClampNeg) by omega]; exact hd))⟩⟩
noncomputable def wl_d_cart : List (Nat × Nat) := [(0, 0)]
noncomputable def Q_d_cart (gi : Nat → Nat → Int32) (gl : Nat → Nat → Int64) (gr : Nat → Nat → Value) (ar1 : Int32) (ar2 : Int32) : Int32 → (Nat → Nat → Int32) → (Nat → Nat → Int64) → (Nat → Nat → Value) → Prop := fun (v : Int32) (gi2 : Nat → Nat → Int32) (gl2 : Nat → Nat → Int64) (gr2 : Nat → Nat → Value) => ∀ (u : Nat) (D : s_D), gr 0 6 = .ref u → t_VL gr u → t_CV gi gl u D → t_Cb D → ((0 ≤ ar1.toInt ∧ ar1.toInt < D 2 ∧ 0 ≤ ar2.toInt ∧ ar2.toInt ≤ 2) → v.toInt = D (82 + 3 * ar1.toNatClampNeg + ar2.toNatClampNeg)) ∧ (¬ (0 ≤ ar1.toInt ∧ ar1.toInt < D 2 ∧ 0 ≤ ar2.toInt ∧ ar2.toInt ≤ 2) → v.toInt = -1)
theorem c_d_cart {X : x_Ext} {d : Nat} {sh : List (Nat ⊕ (Nat × Nat))} {gi : Nat → Nat → Int32} {gl : Nat → Nat → Int64} {gr : Nat → Nat → Value} (hI : t_I sh gi gr) (ar1 : Int32) (ar2 : Int32) : x_Me X (d + 2) n_X11_cart [.ref 0, .int ar1, .int ar2] (sh, gi, gl, gr) (t_PI wl_d_cart sh gi gl gr (-2147483648) 2147483647 (Q_d_cart gi gl gr ar1 ar2)) := by
  have hX : t_X wl_d_cart sh gi gl gr gi gl gr := t_X.rf
  refine me_i f_X11_cart (hI.wf.s rfl) rfl rfl rfl ?_
  refine ev_loc f_X11_cart (nx := 1) rfl rfl rfl rfl ?_
  refine ev_loc f_X11_cart (nx := 2) rfl rfl rfl rfl ?_
  refine ev_inV2 f_X11_cart (nx := 5) (lo2 := [(0, .ref 0), (1, .int ar1)]) rfl rfl rfl rfl f_X11_isCart (hI.wf.s rfl) rfl rfl rfl rfl rfl ?_
  refine ev_loc f_X11_isCart (nx := 1) rfl rfl rfl rfl ?_
  refine ev_if f_X11_isCart (t1 := 22) (t2 := 4) rfl rfl rfl (fun h1 => ?_) (fun h1 => ?_)
  · have u2 : ar1.toInt ≤ (-1) := t_ltu h1 (by decide : (0:Int32).toInt ≤ (0:Int)) rfl
    refine ev_ic f_X11_isCart (nx := 23) (v := 0) rfl (by decide) rfl ?_
    refine ev_retK1 f_X11_isCart rfl rfl rfl ?_
    refine ev_t f_X11_cart (t1 := 8) (t2 := 14) rfl rfl rfl (by decide) ?_
    refine ev_loc f_X11_cart (nx := 9) rfl rfl rfl rfl ?_
    refine ev_ic f_X11_cart (nx := 10) (v := 1) rfl (by decide) rfl ?_
    refine ev_inV2 f_X11_cart (nx := 13) (lo2 := [(0, .ref 0), (1, .int 1)]) rfl rfl rfl rfl f_X11_refuse (hI.wf.s rfl) rfl rfl rfl rfl rfl ?_
    refine ev_loc f_X11_refuse (nx := 1) rfl rfl rfl rfl ?_
    refine ev_loc f_X11_refuse (nx := 2) rfl rfl rfl rfl ?_
    refine ev_putIT f_X11_refuse (nx := 5) rfl (hI.wf.s rfl) rfl rfl rfl (hI.put0 (hI.wf.s rfl) rfl rfl) (hX.upI rfl) (fun g3 e3 hI hX => ?_)
    refine ev_ic f_X11_refuse (nx := 6) (v := -1) rfl (by decide) rfl ?_
    refine ev_retK1 f_X11_refuse rfl rfl rfl ?_
    exact ev_ret f_X11_cart rfl rfl rfl ⟨_, _, _, rfl, hI, hX, ⟨_, rfl, (Int.le_trans (by decide : ((-2147483648):Int) ≤ (-1)) (by decide : ((-1):Int) ≤ ((-1):Int32).toInt)), (Int.le_trans (by decide : ((-1):Int32).toInt ≤ ((-1):Int)) (by decide : ((-1):Int) ≤ 2147483647)), (show ∀ (u : Nat) (D : s_D), gr 0 6 = .ref u → t_VL gr u → t_CV gi gl u D → t_Cb D → ((0 ≤ ar1.toInt ∧ ar1.toInt < D 2 ∧ 0 ≤ ar2.toInt ∧ ar2.toInt ≤ 2) → ((-1) : Int) = D (82 + 3 * ar1.toNatClampNeg + ar2.toNatClampNeg)) ∧ (¬ (0 ≤ ar1.toInt ∧ ar1.toInt < D 2 ∧ 0 ≤ ar2.toInt ∧ ar2.toInt ≤ 2) → ((-1) : Int) = -1) from (by
                                                            intro u D hu hl hc hb
                                                            have hm := hc.2.2.2.1
                                                            exact ⟨fun h => absurd h (by omega), fun _ => rfl⟩))⟩⟩
  · have l4 : 0 ≤ ar1.toInt := t_lel (t_nlt h1) (by decide : (0:Int) ≤ (0:Int32).toInt)
    refine ev_loc f_X11_isCart (nx := 5) rfl rfl rfl rfl ?_
    refine ev_loc f_X11_isCart (nx := 6) rfl rfl rfl rfl ?_
    obtain ⟨a5, e5, p5⟩ := hI.2.2.2.1.1
    refine ev_getR f_X11_isCart (nx := 9) rfl (hI.wf.s rfl) rfl rfl e5 rfl rfl ?_
    obtain ⟨a6, e6, p6⟩ := p5.2.2.2.2.2
    refine ev_getR f_X11_isCart (nx := 12) rfl p5.1 rfl rfl e6 rfl rfl ?_
    refine ev_getI f_X11_isCart (nx := 15) rfl p6.1 rfl rfl rfl ?_
    obtain ⟨l7, u7⟩ := hI.b p6.1 (t_bdK rfl : t_bd 3 0 = some (0, 6))
    refine ev_if f_X11_isCart (t1 := 22) (t2 := 18) rfl rfl rfl (fun h8 => ?_) (fun h8 => ?_)
    · have r9 : (gi a6 0).toInt ≤ ar1.toInt := Int32.le_iff_toInt_le.mp h8
      refine ev_ic f_X11_isCart (nx := 23) (v := 0) rfl (by decide) rfl ?_
      refine ev_retK1 f_X11_isCart rfl rfl rfl ?_
      refine ev_t f_X11_cart (t1 := 8) (t2 := 14) rfl rfl rfl (by decide) ?_
      refine ev_loc f_X11_cart (nx := 9) rfl rfl rfl rfl ?_
      refine ev_ic f_X11_cart (nx := 10) (v := 1) rfl (by decide) rfl ?_
      refine ev_inV2 f_X11_cart (nx := 13) (lo2 := [(0, .ref 0), (1, .int 1)]) rfl rfl rfl rfl f_X11_refuse (hI.wf.s rfl) rfl rfl rfl rfl rfl ?_
      refine ev_loc f_X11_refuse (nx := 1) rfl rfl rfl rfl ?_
      refine ev_loc f_X11_refuse (nx := 2) rfl rfl rfl rfl ?_
      refine ev_putIT f_X11_refuse (nx := 5) rfl (hI.wf.s rfl) rfl rfl rfl (hI.put0 (hI.wf.s rfl) rfl rfl) (hX.upI rfl) (fun g10 e10 hI hX => ?_)
      refine ev_ic f_X11_refuse (nx := 6) (v := -1) rfl (by decide) rfl ?_
      refine ev_retK1 f_X11_refuse rfl rfl rfl ?_
      exact ev_ret f_X11_cart rfl rfl rfl ⟨_, _, _, rfl, hI, hX, ⟨_, rfl, (Int.le_trans (by decide : ((-2147483648):Int) ≤ (-1)) (by decide : ((-1):Int) ≤ ((-1):Int32).toInt)), (Int.le_trans (by decide : ((-1):Int32).toInt ≤ ((-1):Int)) (by decide : ((-1):Int) ≤ 2147483647)), (show ∀ (u : Nat) (D : s_D), gr 0 6 = .ref u → t_VL gr u → t_CV gi gl u D → t_Cb D → ((0 ≤ ar1.toInt ∧ ar1.toInt < D 2 ∧ 0 ≤ ar2.toInt ∧ ar2.toInt ≤ 2) → ((-1) : Int) = D (82 + 3 * ar1.toNatClampNeg + ar2.toNatClampNeg)) ∧ (¬ (0 ≤ ar1.toInt ∧ ar1.toInt < D 2 ∧ 0 ≤ ar2.toInt ∧ ar2.toInt ≤ 2) → ((-1) : Int) = -1) from (by
                                                            intro u D hu hl hc hb
                                                            have ha : a5 = u := Value.ref.inj (e5.symm.trans hu)
                                                            subst ha
                                                            have hb1 : (a5 + 10) = a6 := Value.ref.inj ((hl.1.2.2.2.2).symm.trans e6)
                                                            subst hb1
                                                            have hm := hc.2.2.2.1
                                                            exact ⟨fun h => absurd h (by omega), fun _ => rfl⟩))⟩⟩
    · have r11 : ar1.toInt < (gi a6 0).toInt := Int32.lt_iff_toInt_lt.mp (t_nle h8)
      have u12 : ar1.toInt ≤ 5 := t_ltu (t_nle h8) u7 rfl
      have l13 : 1 ≤ (gi a6 0).toInt := t_ltl (t_nle h8) l4 rfl
      refine ev_ic f_X11_isCart (nx := 19) (v := 1) rfl (by decide) rfl ?_
      refine ev_jmp f_X11_isCart (nx := 23) rfl rfl rfl ?_
      refine ev_retK1 f_X11_isCart rfl rfl rfl ?_
      refine ev_f f_X11_cart (t1 := 8) (t2 := 14) rfl rfl rfl (by decide) ?_
      refine ev_loc f_X11_cart (nx := 15) rfl rfl rfl rfl ?_
      have h14 : ar2.toInt = 0 ∨ ar2.toInt = 1 ∨ ar2.toInt = 2 ∨ (ar2.toInt ≠ 0 ∧ ar2.toInt ≠ 1 ∧ ar2.toInt ≠ 2) := by have := (t_lo ar2); have := (t_hi ar2); omega
      rcases h14 with h14 | h14 | h14 | h14
      · refine ev_swt f_X11_cart (nx := 40) (c := 0) rfl h14 rfl ?_
        refine ev_loc f_X11_cart (nx := 41) rfl rfl rfl rfl ?_
        refine ev_loc f_X11_cart (nx := 42) rfl rfl rfl rfl ?_
        refine ev_getR f_X11_cart (nx := 45) (v := .ref a5) rfl (hI.wf.s rfl) rfl rfl e5 rfl rfl ?_
        refine ev_getR f_X11_cart (nx := 48) (v := .ref a6) rfl p5.1 rfl rfl e6 rfl rfl ?_
        obtain ⟨a15, e15, s15, o15⟩ := p6.2.2.1
        refine ev_getR f_X11_cart (nx := 51) rfl p6.1 rfl rfl e15 rfl rfl ?_
        refine ev_loc f_X11_cart (nx := 52) rfl rfl rfl rfl ?_
        refine ev_ialdT f_X11_cart (nx := 53) rfl s15 l4 (by decide) u12 (by decide) rfl (fun w16 e16 => ?_)
        refine ev_inV2 f_X11_cart (nx := 56) (lo2 := [(0, .ref 0), (1, .int w16)]) rfl rfl rfl rfl f_X11_answer (hI.wf.s rfl) rfl rfl rfl rfl rfl ?_
        refine ev_loc f_X11_answer (nx := 1) rfl rfl rfl rfl ?_
        refine ev_ic f_X11_answer (nx := 2) (v := 0) rfl (by decide) rfl ?_
        refine ev_putIT f_X11_answer (nx := 5) rfl (hI.wf.s rfl) rfl rfl rfl (hI.put0 (hI.wf.s rfl) rfl rfl) (hX.upI rfl) (fun g17 e17 hI hX => ?_)
        refine ev_loc f_X11_answer (nx := 6) rfl rfl rfl rfl ?_
        refine ev_retK1 f_X11_answer rfl rfl rfl ?_
        exact ev_ret f_X11_cart rfl rfl rfl ⟨_, _, _, rfl, hI, hX, ⟨_, rfl, (t_lo w16), (t_hi w16), (show ∀ (u : Nat) (D : s_D), gr 0 6 = .ref u → t_VL gr u → t_CV gi gl u D → t_Cb D → ((0 ≤ ar1.toInt ∧ ar1.toInt < D 2 ∧ 0 ≤ ar2.toInt ∧ ar2.toInt ≤ 2) → w16.toInt = D (82 + 3 * ar1.toNatClampNeg + ar2.toNatClampNeg)) ∧ (¬ (0 ≤ ar1.toInt ∧ ar1.toInt < D 2 ∧ 0 ≤ ar2.toInt ∧ ar2.toInt ≤ 2) → w16.toInt = -1) from (by
                                                            intro u D hu hl hc hb
                                                            have ha : a5 = u := Value.ref.inj (e5.symm.trans hu)
                                                            subst ha
                                                            have hb1 : (a5 + 10) = a6 := Value.ref.inj ((hl.1.2.2.2.2).symm.trans e6)
                                                            subst hb1
                                                            have hb2 : (a5 + 10 + 2) = a15 := Value.ref.inj ((hl.2.2.2.1).symm.trans e15)
                                                            subst hb2
                                                            have hm := hc.2.2.2.1
                                                            have ka := t_clamp (i := ar1) (by omega)
                                                            have kb := t_clamp (i := ar2) (by omega)
                                                            have hs := hc.2.2.2.2 ar1.toNatClampNeg (by omega)
                                                            refine ⟨fun _ => ?_, fun h => absurd (show _ from ⟨by omega, by omega, by omega, by omega⟩) h⟩
                                                            rw [show 82 + 3 * ar1.toNatClampNeg + ar2.toNatClampNeg = 82 + 3 * ar1.toNatClampNeg by omega]
                                                            rw [e16]; exact hs.1))⟩⟩
      · refine ev_swt f_X11_cart (nx := 57) (c := 1) rfl h14 rfl ?_
        refine ev_loc f_X11_cart (nx := 58) rfl rfl rfl rfl ?_
        refine ev_loc f_X11_cart (nx := 59) rfl rfl rfl rfl ?_
        refine ev_getR f_X11_cart (nx := 62) (v := .ref a5) rfl (hI.wf.s rfl) rfl rfl e5 rfl rfl ?_
        refine ev_getR f_X11_cart (nx := 65) (v := .ref a6) rfl p5.1 rfl rfl e6 rfl rfl ?_
        obtain ⟨a18, e18, s18, o18⟩ := p6.2.2.2.1
        refine ev_getR f_X11_cart (nx := 68) rfl p6.1 rfl rfl e18 rfl rfl ?_
        refine ev_loc f_X11_cart (nx := 69) rfl rfl rfl rfl ?_
        refine ev_ialdT f_X11_cart (nx := 70) rfl s18 l4 (by decide) u12 (by decide) rfl (fun w19 e19 => ?_)
        refine ev_inV2 f_X11_cart (nx := 73) (lo2 := [(0, .ref 0), (1, .int w19)]) rfl rfl rfl rfl f_X11_answer (hI.wf.s rfl) rfl rfl rfl rfl rfl ?_
        refine ev_loc f_X11_answer (nx := 1) rfl rfl rfl rfl ?_
        refine ev_ic f_X11_answer (nx := 2) (v := 0) rfl (by decide) rfl ?_
        refine ev_putIT f_X11_answer (nx := 5) rfl (hI.wf.s rfl) rfl rfl rfl (hI.put0 (hI.wf.s rfl) rfl rfl) (hX.upI rfl) (fun g20 e20 hI hX => ?_)
        refine ev_loc f_X11_answer (nx := 6) rfl rfl rfl rfl ?_
        refine ev_retK1 f_X11_answer rfl rfl rfl ?_
        exact ev_ret f_X11_cart rfl rfl rfl ⟨_, _, _, rfl, hI, hX, ⟨_, rfl, (t_lo w19), (t_hi w19), (show ∀ (u : Nat) (D : s_D), gr 0 6 = .ref u → t_VL gr u → t_CV gi gl u D → t_Cb D → ((0 ≤ ar1.toInt ∧ ar1.toInt < D 2 ∧ 0 ≤ ar2.toInt ∧ ar2.toInt ≤ 2) → w19.toInt = D (82 + 3 * ar1.toNatClampNeg + ar2.toNatClampNeg)) ∧ (¬ (0 ≤ ar1.toInt ∧ ar1.toInt < D 2 ∧ 0 ≤ ar2.toInt ∧ ar2.toInt ≤ 2) → w19.toInt = -1) from (by
                                                            intro u D hu hl hc hb
                                                            have ha : a5 = u := Value.ref.inj (e5.symm.trans hu)
                                                            subst ha
                                                            have hb1 : (a5 + 10) = a6 := Value.ref.inj ((hl.1.2.2.2.2).symm.trans e6)
                                                            subst hb1
                                                            have hb2 : (a5 + 10 + 3) = a18 := Value.ref.inj ((hl.2.2.2.2.1).symm.trans e18)
                                                            subst hb2
                                                            have hm := hc.2.2.2.1
                                                            have ka := t_clamp (i := ar1) (by omega)
                                                            have kb := t_clamp (i := ar2) (by omega)
                                                            have hs := hc.2.2.2.2 ar1.toNatClampNeg (by omega)
                                                            refine ⟨fun _ => ?_, fun h => absurd (show _ from ⟨by omega, by omega, by omega, by omega⟩) h⟩
                                                            rw [show 82 + 3 * ar1.toNatClampNeg + ar2.toNatClampNeg = 83 + 3 * ar1.toNatClampNeg by omega]
                                                            rw [e19]; exact hs.2.1))⟩⟩
      · refine ev_swt f_X11_cart (nx := 74) (c := 2) rfl h14 rfl ?_
        refine ev_loc f_X11_cart (nx := 75) rfl rfl rfl rfl ?_
        refine ev_loc f_X11_cart (nx := 76) rfl rfl rfl rfl ?_
        refine ev_getR f_X11_cart (nx := 79) (v := .ref a5) rfl (hI.wf.s rfl) rfl rfl e5 rfl rfl ?_
        refine ev_getR f_X11_cart (nx := 82) (v := .ref a6) rfl p5.1 rfl rfl e6 rfl rfl ?_
        obtain ⟨a21, e21, s21, o21⟩ := p6.2.2.2.2.1
        refine ev_getR f_X11_cart (nx := 85) rfl p6.1 rfl rfl e21 rfl rfl ?_
        refine ev_loc f_X11_cart (nx := 86) rfl rfl rfl rfl ?_
        refine ev_ialdT f_X11_cart (nx := 87) rfl s21 l4 (by decide) u12 (by decide) rfl (fun w22 e22 => ?_)
        refine ev_inV2 f_X11_cart (nx := 90) (lo2 := [(0, .ref 0), (1, .int w22)]) rfl rfl rfl rfl f_X11_answer (hI.wf.s rfl) rfl rfl rfl rfl rfl ?_
        refine ev_loc f_X11_answer (nx := 1) rfl rfl rfl rfl ?_
        refine ev_ic f_X11_answer (nx := 2) (v := 0) rfl (by decide) rfl ?_
        refine ev_putIT f_X11_answer (nx := 5) rfl (hI.wf.s rfl) rfl rfl rfl (hI.put0 (hI.wf.s rfl) rfl rfl) (hX.upI rfl) (fun g23 e23 hI hX => ?_)
        refine ev_loc f_X11_answer (nx := 6) rfl rfl rfl rfl ?_
        refine ev_retK1 f_X11_answer rfl rfl rfl ?_
        exact ev_ret f_X11_cart rfl rfl rfl ⟨_, _, _, rfl, hI, hX, ⟨_, rfl, (t_lo w22), (t_hi w22), (show ∀ (u : Nat) (D : s_D), gr 0 6 = .ref u → t_VL gr u → t_CV gi gl u D → t_Cb D → ((0 ≤ ar1.toInt ∧ ar1.toInt < D 2 ∧ 0 ≤ ar2.toInt ∧ ar2.toInt ≤ 2) → w22.toInt = D (82 + 3 * ar1.toNatClampNeg + ar2.toNatClampNeg)) ∧ (¬ (0 ≤ ar1.toInt ∧ ar1.toInt < D 2 ∧ 0 ≤ ar2.toInt ∧ ar2.toInt ≤ 2) → w22.toInt = -1) from (by
                                                            intro u D hu hl hc hb
                                                            have ha : a5 = u := Value.ref.inj (e5.symm.trans hu)
                                                            subst ha
                                                            have hb1 : (a5 + 10) = a6 := Value.ref.inj ((hl.1.2.2.2.2).symm.trans e6)
                                                            subst hb1
                                                            have hb2 : (a5 + 10 + 4) = a21 := Value.ref.inj ((hl.2.2.2.2.2.1).symm.trans e21)
                                                            subst hb2
                                                            have hm := hc.2.2.2.1
                                                            have ka := t_clamp (i := ar1) (by omega)
                                                            have kb := t_clamp (i := ar2) (by omega)
                                                            have hs := hc.2.2.2.2 ar1.toNatClampNeg (by omega)
                                                            refine ⟨fun _ => ?_, fun h => absurd (show _ from ⟨by omega, by omega, by omega, by omega⟩) h⟩
                                                            rw [show 82 + 3 * ar1.toNatClampNeg + ar2.toNatClampNeg = 84 + 3 * ar1.toNatClampNeg by omega]
                                                            rw [e22]; exact hs.2.2.1))⟩⟩
      · refine ev_swtd f_X11_cart (nx := 91) rfl (by omega) (by decide) rfl ?_
        refine ev_loc f_X11_cart (nx := 92) rfl rfl rfl rfl ?_
        refine ev_ic f_X11_cart (nx := 93) (v := 1) rfl (by decide) rfl ?_
        refine ev_inV2 f_X11_cart (nx := 96) (lo2 := [(0, .ref 0), (1, .int 1)]) rfl rfl rfl rfl f_X11_refuse (hI.wf.s rfl) rfl rfl rfl rfl rfl ?_
        refine ev_loc f_X11_refuse (nx := 1) rfl rfl rfl rfl ?_
        refine ev_loc f_X11_refuse (nx := 2) rfl rfl rfl rfl ?_
        refine ev_putIT f_X11_refuse (nx := 5) rfl (hI.wf.s rfl) rfl rfl rfl (hI.put0 (hI.wf.s rfl) rfl rfl) (hX.upI rfl) (fun g24 e24 hI hX => ?_)
        refine ev_ic f_X11_refuse (nx := 6) (v := -1) rfl (by decide) rfl ?_
        refine ev_retK1 f_X11_refuse rfl rfl rfl ?_
        exact ev_ret f_X11_cart rfl rfl rfl ⟨_, _, _, rfl, hI, hX, ⟨_, rfl, (Int.le_trans (by decide : ((-2147483648):Int) ≤ (-1)) (by decide : ((-1):Int) ≤ ((-1):Int32).toInt)), (Int.le_trans (by decide : ((-1):Int32).toInt ≤ ((-1):Int)) (by decide : ((-1):Int) ≤ 2147483647)), (show ∀ (u : Nat) (D : s_D), gr 0 6 = .ref u → t_VL gr u → t_CV gi gl u D → t_Cb D → ((0 ≤ ar1.toInt ∧ ar1.toInt < D 2 ∧ 0 ≤ ar2.toInt ∧ ar2.toInt ≤ 2) → ((-1) : Int) = D (82 + 3 * ar1.toNatClampNeg + ar2.toNatClampNeg)) ∧ (¬ (0 ≤ ar1.toInt ∧ ar1.toInt < D 2 ∧ 0 ≤ ar2.toInt ∧ ar2.toInt ≤ 2) → ((-1) : Int) = -1) from (by
                                                            intro u D hu hl hc hb
                                                            have ha : a5 = u := Value.ref.inj (e5.symm.trans hu)
                                                            subst ha
                                                            have hb1 : (a5 + 10) = a6 := Value.ref.inj ((hl.1.2.2.2.2).symm.trans e6)
                                                            subst hb1
                                                            have hm := hc.2.2.2.1
                                                            exact ⟨fun h => absurd h (by omega), fun _ => rfl⟩))⟩⟩
noncomputable def wl_e_cart : List (Nat × Nat) := [(69, 2)]
noncomputable def Q_e_cart (gi : Nat → Nat → Int32) (gl : Nat → Nat → Int64) (gr : Nat → Nat → Value) (ar1 : Int32) (ar2 : Int32) : Int32 → (Nat → Nat → Int32) → (Nat → Nat → Int64) → (Nat → Nat → Value) → Prop := fun (v : Int32) (gi2 : Nat → Nat → Int32) (gl2 : Nat → Nat → Int64) (gr2 : Nat → Nat → Value) => ∀ (D : s_D), t_ME 0 gi D → t_Cb D → ((0 ≤ ar1.toInt ∧ ar1.toInt < D 2 ∧ 0 ≤ ar2.toInt ∧ ar2.toInt ≤ 2) → v.toInt = D (82 + 3 * ar1.toNatClampNeg + ar2.toNatClampNeg)) ∧ (¬ (0 ≤ ar1.toInt ∧ ar1.toInt < D 2 ∧ 0 ≤ ar2.toInt ∧ ar2.toInt ≤ 2) → v.toInt = -1)
theorem c_e_cart {X : x_Ext} {d : Nat} {sh : List (Nat ⊕ (Nat × Nat))} {gi : Nat → Nat → Int32} {gl : Nat → Nat → Int64} {gr : Nat → Nat → Value} (hI : t_I sh gi gr) (ar1 : Int32) (ar2 : Int32) : x_Me X (d + 2) n_X12_cart [.ref 69, .int ar1, .int ar2] (sh, gi, gl, gr) (t_PI wl_e_cart sh gi gl gr (-1) 120 (Q_e_cart gi gl gr ar1 ar2)) := by
  have hX : t_X wl_e_cart sh gi gl gr gi gl gr := t_X.rf
  refine me_i f_X12_cart (hI.wf.s rfl) rfl rfl rfl ?_
  refine ev_loc f_X12_cart (nx := 1) rfl rfl rfl rfl ?_
  refine ev_loc f_X12_cart (nx := 2) rfl rfl rfl rfl ?_
  refine ev_inV2 f_X12_cart (nx := 5) (lo2 := [(0, .ref 69), (1, .int ar1)]) rfl rfl rfl rfl f_X12_isCart (hI.wf.s rfl) rfl rfl rfl rfl rfl ?_
  refine ev_loc f_X12_isCart (nx := 1) rfl rfl rfl rfl ?_
  refine ev_if f_X12_isCart (t1 := 18) (t2 := 4) rfl rfl rfl (fun h1 => ?_) (fun h1 => ?_)
  · have u2 : ar1.toInt ≤ (-1) := t_ltu h1 (by decide : (0:Int32).toInt ≤ (0:Int)) rfl
    refine ev_ic f_X12_isCart (nx := 19) (v := 0) rfl (by decide) rfl ?_
    refine ev_retK1 f_X12_isCart rfl rfl rfl ?_
    refine ev_t f_X12_cart (t1 := 37) (t2 := 8) rfl rfl rfl (by decide) ?_
    refine ev_loc f_X12_cart (nx := 38) rfl rfl rfl rfl ?_
    refine ev_ic f_X12_cart (nx := 39) (v := 1) rfl (by decide) rfl ?_
    refine ev_inV2 f_X12_cart (nx := 42) (lo2 := [(0, .ref 69), (1, .int 1)]) rfl rfl rfl rfl f_X12_refuse (hI.wf.s rfl) rfl rfl rfl rfl rfl ?_
    refine ev_loc f_X12_refuse (nx := 1) rfl rfl rfl rfl ?_
    refine ev_loc f_X12_refuse (nx := 2) rfl rfl rfl rfl ?_
    refine ev_putIT f_X12_refuse (nx := 5) rfl (hI.wf.s rfl) rfl rfl rfl (hI.put0 (hI.wf.s rfl) rfl rfl) (hX.upI rfl) (fun g3 e3 hI hX => ?_)
    refine ev_ic f_X12_refuse (nx := 6) (v := -1) rfl (by decide) rfl ?_
    refine ev_retK1 f_X12_refuse rfl rfl rfl ?_
    exact ev_ret f_X12_cart rfl rfl rfl ⟨_, _, _, rfl, hI, hX, ⟨_, rfl, (by decide : ((-1):Int) ≤ ((-1):Int32).toInt), (Int.le_trans (by decide : ((-1):Int32).toInt ≤ ((-1):Int)) (by decide : ((-1):Int) ≤ 120)), (show ∀ (D : s_D), t_ME 0 gi D → t_Cb D → ((0 ≤ ar1.toInt ∧ ar1.toInt < D 2 ∧ 0 ≤ ar2.toInt ∧ ar2.toInt ≤ 2) → ((-1) : Int) = D (82 + 3 * ar1.toNatClampNeg + ar2.toNatClampNeg)) ∧ (¬ (0 ≤ ar1.toInt ∧ ar1.toInt < D 2 ∧ 0 ≤ ar2.toInt ∧ ar2.toInt ≤ 2) → ((-1) : Int) = -1) from (by
                                                            intro D hm hb
                                                            have ha : (gi 70 2).toInt = D 2 := hm.1.1.2.2
                                                            exact ⟨fun h => absurd h (by omega), fun _ => rfl⟩))⟩⟩
  · have l4 : 0 ≤ ar1.toInt := t_lel (t_nlt h1) (by decide : (0:Int) ≤ (0:Int32).toInt)
    refine ev_loc f_X12_isCart (nx := 5) rfl rfl rfl rfl ?_
    refine ev_loc f_X12_isCart (nx := 6) rfl rfl rfl rfl ?_
    refine ev_getR f_X12_isCart (nx := 9) rfl (hI.wf.s rfl) rfl rfl (hI.wf.r rfl) rfl rfl ?_
    refine ev_ic f_X12_isCart (nx := 10) (v := 2) rfl (by decide) rfl ?_
    obtain ⟨l5, u5⟩ := hI.ab (by decide +kernel : t_abr 70 2 2 0 6 = true) (Nat.le_refl _) (Nat.le_refl _)
    refine ev_ialdv f_X12_isCart (nx := 11) (w := (gi 70 2)) rfl (hI.wf.s rfl) (by decide) (rfl : (2 : Int32).toNatClampNeg = 2) (by decide) rfl rfl ?_
    refine ev_if f_X12_isCart (t1 := 18) (t2 := 14) rfl rfl rfl (fun h6 => ?_) (fun h6 => ?_)
    · have r7 : (gi 70 2).toInt ≤ ar1.toInt := Int32.le_iff_toInt_le.mp h6
      refine ev_ic f_X12_isCart (nx := 19) (v := 0) rfl (by decide) rfl ?_
      refine ev_retK1 f_X12_isCart rfl rfl rfl ?_
      refine ev_t f_X12_cart (t1 := 37) (t2 := 8) rfl rfl rfl (by decide) ?_
      refine ev_loc f_X12_cart (nx := 38) rfl rfl rfl rfl ?_
      refine ev_ic f_X12_cart (nx := 39) (v := 1) rfl (by decide) rfl ?_
      refine ev_inV2 f_X12_cart (nx := 42) (lo2 := [(0, .ref 69), (1, .int 1)]) rfl rfl rfl rfl f_X12_refuse (hI.wf.s rfl) rfl rfl rfl rfl rfl ?_
      refine ev_loc f_X12_refuse (nx := 1) rfl rfl rfl rfl ?_
      refine ev_loc f_X12_refuse (nx := 2) rfl rfl rfl rfl ?_
      refine ev_putIT f_X12_refuse (nx := 5) rfl (hI.wf.s rfl) rfl rfl rfl (hI.put0 (hI.wf.s rfl) rfl rfl) (hX.upI rfl) (fun g8 e8 hI hX => ?_)
      refine ev_ic f_X12_refuse (nx := 6) (v := -1) rfl (by decide) rfl ?_
      refine ev_retK1 f_X12_refuse rfl rfl rfl ?_
      exact ev_ret f_X12_cart rfl rfl rfl ⟨_, _, _, rfl, hI, hX, ⟨_, rfl, (by decide : ((-1):Int) ≤ ((-1):Int32).toInt), (Int.le_trans (by decide : ((-1):Int32).toInt ≤ ((-1):Int)) (by decide : ((-1):Int) ≤ 120)), (show ∀ (D : s_D), t_ME 0 gi D → t_Cb D → ((0 ≤ ar1.toInt ∧ ar1.toInt < D 2 ∧ 0 ≤ ar2.toInt ∧ ar2.toInt ≤ 2) → ((-1) : Int) = D (82 + 3 * ar1.toNatClampNeg + ar2.toNatClampNeg)) ∧ (¬ (0 ≤ ar1.toInt ∧ ar1.toInt < D 2 ∧ 0 ≤ ar2.toInt ∧ ar2.toInt ≤ 2) → ((-1) : Int) = -1) from (by
                                                            intro D hm hb
                                                            have ha : (gi 70 2).toInt = D 2 := hm.1.1.2.2
                                                            exact ⟨fun h => absurd h (by omega), fun _ => rfl⟩))⟩⟩
    · have r9 : ar1.toInt < (gi 70 2).toInt := Int32.lt_iff_toInt_lt.mp (t_nle h6)
      have u10 : ar1.toInt ≤ 5 := t_ltu (t_nle h6) u5 rfl
      have l11 : 1 ≤ (gi 70 2).toInt := t_ltl (t_nle h6) l4 rfl
      refine ev_ic f_X12_isCart (nx := 15) (v := 1) rfl (by decide) rfl ?_
      refine ev_jmp f_X12_isCart (nx := 19) rfl rfl rfl ?_
      refine ev_retK1 f_X12_isCart rfl rfl rfl ?_
      refine ev_f f_X12_cart (t1 := 37) (t2 := 8) rfl rfl rfl (by decide) ?_
      refine ev_loc f_X12_cart (nx := 9) rfl rfl rfl rfl ?_
      refine ev_if f_X12_cart (t1 := 37) (t2 := 12) rfl rfl rfl (fun h12 => ?_) (fun h12 => ?_)
      · have u13 : ar2.toInt ≤ (-1) := t_ltu h12 (by decide : (0:Int32).toInt ≤ (0:Int)) rfl
        refine ev_loc f_X12_cart (nx := 38) rfl rfl rfl rfl ?_
        refine ev_ic f_X12_cart (nx := 39) (v := 1) rfl (by decide) rfl ?_
        refine ev_inV2 f_X12_cart (nx := 42) (lo2 := [(0, .ref 69), (1, .int 1)]) rfl rfl rfl rfl f_X12_refuse (hI.wf.s rfl) rfl rfl rfl rfl rfl ?_
        refine ev_loc f_X12_refuse (nx := 1) rfl rfl rfl rfl ?_
        refine ev_loc f_X12_refuse (nx := 2) rfl rfl rfl rfl ?_
        refine ev_putIT f_X12_refuse (nx := 5) rfl (hI.wf.s rfl) rfl rfl rfl (hI.put0 (hI.wf.s rfl) rfl rfl) (hX.upI rfl) (fun g14 e14 hI hX => ?_)
        refine ev_ic f_X12_refuse (nx := 6) (v := -1) rfl (by decide) rfl ?_
        refine ev_retK1 f_X12_refuse rfl rfl rfl ?_
        exact ev_ret f_X12_cart rfl rfl rfl ⟨_, _, _, rfl, hI, hX, ⟨_, rfl, (by decide : ((-1):Int) ≤ ((-1):Int32).toInt), (Int.le_trans (by decide : ((-1):Int32).toInt ≤ ((-1):Int)) (by decide : ((-1):Int) ≤ 120)), (show ∀ (D : s_D), t_ME 0 gi D → t_Cb D → ((0 ≤ ar1.toInt ∧ ar1.toInt < D 2 ∧ 0 ≤ ar2.toInt ∧ ar2.toInt ≤ 2) → ((-1) : Int) = D (82 + 3 * ar1.toNatClampNeg + ar2.toNatClampNeg)) ∧ (¬ (0 ≤ ar1.toInt ∧ ar1.toInt < D 2 ∧ 0 ≤ ar2.toInt ∧ ar2.toInt ≤ 2) → ((-1) : Int) = -1) from (by
                                                            intro D hm hb
                                                            have ha : (gi 70 2).toInt = D 2 := hm.1.1.2.2
                                                            exact ⟨fun h => absurd h (by omega), fun _ => rfl⟩))⟩⟩
      · have l15 : 0 ≤ ar2.toInt := t_lel (t_nlt h12) (by decide : (0:Int) ≤ (0:Int32).toInt)
        refine ev_loc f_X12_cart (nx := 13) rfl rfl rfl rfl ?_
        refine ev_ic f_X12_cart (nx := 14) (v := 2) rfl (by decide) rfl ?_
        refine ev_if f_X12_cart (t1 := 37) (t2 := 17) rfl rfl rfl (fun h16 => ?_) (fun h16 => ?_)
        · have l17 : 3 ≤ ar2.toInt := t_ltl h16 (by decide : (2:Int) ≤ (2:Int32).toInt) rfl
          refine ev_loc f_X12_cart (nx := 38) rfl rfl rfl rfl ?_
          refine ev_ic f_X12_cart (nx := 39) (v := 1) rfl (by decide) rfl ?_
          refine ev_inV2 f_X12_cart (nx := 42) (lo2 := [(0, .ref 69), (1, .int 1)]) rfl rfl rfl rfl f_X12_refuse (hI.wf.s rfl) rfl rfl rfl rfl rfl ?_
          refine ev_loc f_X12_refuse (nx := 1) rfl rfl rfl rfl ?_
          refine ev_loc f_X12_refuse (nx := 2) rfl rfl rfl rfl ?_
          refine ev_putIT f_X12_refuse (nx := 5) rfl (hI.wf.s rfl) rfl rfl rfl (hI.put0 (hI.wf.s rfl) rfl rfl) (hX.upI rfl) (fun g18 e18 hI hX => ?_)
          refine ev_ic f_X12_refuse (nx := 6) (v := -1) rfl (by decide) rfl ?_
          refine ev_retK1 f_X12_refuse rfl rfl rfl ?_
          exact ev_ret f_X12_cart rfl rfl rfl ⟨_, _, _, rfl, hI, hX, ⟨_, rfl, (by decide : ((-1):Int) ≤ ((-1):Int32).toInt), (Int.le_trans (by decide : ((-1):Int32).toInt ≤ ((-1):Int)) (by decide : ((-1):Int) ≤ 120)), (show ∀ (D : s_D), t_ME 0 gi D → t_Cb D → ((0 ≤ ar1.toInt ∧ ar1.toInt < D 2 ∧ 0 ≤ ar2.toInt ∧ ar2.toInt ≤ 2) → ((-1) : Int) = D (82 + 3 * ar1.toNatClampNeg + ar2.toNatClampNeg)) ∧ (¬ (0 ≤ ar1.toInt ∧ ar1.toInt < D 2 ∧ 0 ≤ ar2.toInt ∧ ar2.toInt ≤ 2) → ((-1) : Int) = -1) from (by
                                                            intro D hm hb
                                                            have ha : (gi 70 2).toInt = D 2 := hm.1.1.2.2
                                                            exact ⟨fun h => absurd h (by omega), fun _ => rfl⟩))⟩⟩
        · have u19 : ar2.toInt ≤ 2 := t_leu (t_nlt h16) (by decide : (2:Int32).toInt ≤ (2:Int))
          refine ev_loc f_X12_cart (nx := 18) rfl rfl rfl rfl ?_
          refine ev_loc f_X12_cart (nx := 19) rfl rfl rfl rfl ?_
          refine ev_getR f_X12_cart (nx := 22) rfl (hI.wf.s rfl) rfl rfl (hI.wf.r rfl) rfl rfl ?_
          refine ev_bp f_X12_cart (nx := 24) (v := 82) rfl (by decide) rfl ?_
          refine ev_ic f_X12_cart (nx := 25) (v := 3) rfl (by decide) rfl ?_
          refine ev_loc f_X12_cart (nx := 26) rfl rfl rfl rfl ?_
          refine ev_mulL f_X12_cart (nx := 27) (c := 3) (l := 0) (u := 15) rfl (by decide) (by decide) l4 u10 rfl rfl (by decide) (by decide) rfl (fun z20 e20 l20 u20 => ?_)
          refine ev_addK f_X12_cart (nx := 28) (c := 82) (l := 82) (u := 97) rfl (by decide) l20 u20 rfl rfl (by decide) (by decide) rfl (fun z21 e21 l21 u21 => ?_)
          refine ev_loc f_X12_cart (nx := 29) rfl rfl rfl rfl ?_
          refine ev_addR f_X12_cart (nx := 30) (l := 82) (u := 99) rfl l21 u21 l15 u19 rfl rfl (by decide) (by decide) rfl (fun z22 e22 l22 u22 => ?_)
          refine ev_ialdT f_X12_cart (nx := 31) rfl (hI.wf.s rfl) l22 (by decide) u22 (by decide) rfl (fun w23 e23 => ?_)
          obtain ⟨l23, u23⟩ := hI.abi e23 (by decide +kernel : t_abr 70 82 99 0 120 = true) l22 (by decide) u22 (by decide)
          refine ev_inV2 f_X12_cart (nx := 34) (lo2 := [(0, .ref 69), (1, .int w23)]) rfl rfl rfl rfl f_X12_gives (hI.wf.s rfl) rfl rfl rfl rfl rfl ?_
          refine ev_loc f_X12_gives (nx := 1) rfl rfl rfl rfl ?_
          refine ev_ic f_X12_gives (nx := 2) (v := 0) rfl (by decide) rfl ?_
          refine ev_putIT f_X12_gives (nx := 5) rfl (hI.wf.s rfl) rfl rfl rfl (hI.put0 (hI.wf.s rfl) rfl rfl) (hX.upI rfl) (fun g24 e24 hI hX => ?_)
          refine ev_loc f_X12_gives (nx := 6) rfl rfl rfl rfl ?_
          refine ev_retK1 f_X12_gives rfl rfl rfl ?_
          refine ev_jmp f_X12_cart (nx := 42) rfl rfl rfl ?_
          exact ev_ret f_X12_cart rfl rfl rfl ⟨_, _, _, rfl, hI, hX, ⟨_, rfl, (Int.le_trans (by decide : ((-1):Int) ≤ 0) l23), u23, (show ∀ (D : s_D), t_ME 0 gi D → t_Cb D → ((0 ≤ ar1.toInt ∧ ar1.toInt < D 2 ∧ 0 ≤ ar2.toInt ∧ ar2.toInt ≤ 2) → w23.toInt = D (82 + 3 * ar1.toNatClampNeg + ar2.toNatClampNeg)) ∧ (¬ (0 ≤ ar1.toInt ∧ ar1.toInt < D 2 ∧ 0 ≤ ar2.toInt ∧ ar2.toInt ≤ 2) → w23.toInt = -1) from (by
                                                            intro D hm hb
                                                            have ha : (gi 70 2).toInt = D 2 := hm.1.1.2.2
                                                            have ka := t_clamp (i := ar1) (by omega)
                                                            have kb := t_clamp (i := ar2) (by omega)
                                                            have kc := t_clamp (i := z22) (by omega)
                                                            refine ⟨fun _ => ?_, fun h => absurd (show _ from ⟨by omega, by omega, by omega, by omega⟩) h⟩
                                                            have hd := hm.2.2.2 (82 + 3 * ar1.toNatClampNeg + ar2.toNatClampNeg) (by omega) (by omega)
                                                            rw [e23, show z22.toNatClampNeg = 0 + (82 + 3 * ar1.toNatClampNeg + ar2.toNatClampNeg) by omega]; exact hd))⟩⟩
/-! ===== RIVERS through river(), rules(), MARKS; what is told of SHIPS, CARTS ===== -/
section DLAW
variable {sh sh1 : List (Nat ⊕ (Nat × Nat))} {gi g1 g2 : Nat → Nat → Int32} {gl l1 l2 : Nat → Nat → Int64} {gr r1 r2 : Nat → Nat → Value} {w1 w2 : List (Nat × Nat)} {A A2 x1 x2 : Int32}
/-- the other side's call leaves the class's cells -/
theorem t_D_m (x : t_X w2 sh1 g1 l1 r1 g2 l2 r2) (hw : (t_ndB w2 && (t_un w2 (0, 6) && (t_un w2 (0, 12) && t_nc w2 19))) = true) : (∀ K, (3 ≤ K ∧ K < 19) ∨ 102 ≤ K → g2 K = g1 K ∧ l2 K = l1 K ∧ r2 K = r1 K) ∧ r2 0 6 = r1 0 6 ∧ g2 0 12 = g1 0 12 ∧ r2 19 = r1 19 := by
  simp only [Bool.and_eq_true] at hw
  have f := t_F_X x
  exact ⟨t_nd_fr x hw.1, (f 0 6 (by decide) (t_un_ok hw.2.1)).2.2, (f 0 12 (by decide) (t_un_ok hw.2.2.1)).1, t_F_nr f hw.2.2.2 (by decide)⟩
theorem t_DR_river (hT : t_TP gi) (hR : t_R gi gr) (hD : t_DR sh.length gi gl gr) (h102 : 102 ≤ sh.length) (hle : sh.length ≤ sh1.length) (hm3 : (gi 0 12).toInt ≤ 3) (f1 : t_F w1 gi gl gr g1 l1 r1) (hw1 : (t_nc w1 75 && (t_nc w1 70 && (t_nc w1 19 && t_un w1 (0, 12)))) = true) (h69 : t_in w1 69 10 = false) (xm : t_X w2 sh1 g1 l1 r1 g2 l2 r2) (hw2 : (t_ndB w2 && (t_un w2 (0, 6) && (t_un w2 (0, 12) && t_nc w2 19))) = true) (em : ∀ j, 350 ≤ j → j < 1400 → g2 70 j = g1 70 j) (q1 : ((0 ≤ A.toInt ∧ A.toInt ≤ (gi 0 5).toInt) → ∀ n : Nat, (n : Int) = A.toInt → t_RES gi gl gr sh.length (gi 2) n x1 g1 l1 r1) ∧ (¬ (0 ≤ A.toInt ∧ A.toInt ≤ (gi 0 5).toInt) → x1.toInt = -1 ∧ (∀ K, K ≠ 0 → g1 K = gi K ∧ l1 K = gl K ∧ r1 K = gr K) ∧ r1 0 6 = gr 0 6 ∧ r1 0 7 = gr 0 7) ∧ (0 ≤ A.toInt ∧ A.toInt ≤ (gi 0 5).toInt → sh.length + 18 ≤ sh1.length)) (q2 : Q_n_river g1 l1 r1 A x2 g2 l2 r2) : t_DR sh1.length g2 l2 r2 := by
  simp only [Bool.and_eq_true] at hw1
  obtain ⟨n75, n70, n19, n12⟩ := hw1
  have e0 : (gi 0 5).toInt = (gi 69 10).toInt := congrArg Int32.toInt (t_R_fed hR)
  have e1 : (g1 69 10).toInt = (gi 69 10).toInt := congrArg Int32.toInt (f1 69 10 (by decide) h69).1
  have r75 : g1 75 = gi 75 := t_F_nc f1 n75 (by decide)
  have r70 : g1 70 = gi 70 := t_F_nc f1 n70 (by decide)
  have r12 : g1 0 12 = gi 0 12 := (f1 0 12 (by decide) (t_un_ok n12)).1
  have r19 : r1 19 = gr 19 := t_F_nr f1 n19 (by decide)
  obtain ⟨m0, m6, m12, m19⟩ := t_D_m xm hw2
  obtain ⟨k1, k2⟩ := q2
  have same : r1 0 6 = gr 0 6 → (∀ K, K ≠ 0 → K < sh.length → g1 K = gi K ∧ l1 K = gl K ∧ r1 K = gr K) → (∀ j : Nat, j < 350 → g2 70 j = g1 70 j) → t_DR sh1.length g2 l2 r2 := by
    intro s6 sK s70
    refine t_DR_gen hD hle (fun K hK => ?_) (m6.trans s6) (m12.trans r12) (m19.trans r19) (fun j hj _ _ _ => ?_) hm3
    · have a := m0 K (by omega)
      have b := sK K (by omega) (by omega)
      exact ⟨a.1.trans b.1, a.2.1.trans b.2.1, a.2.2.trans b.2.2⟩
    · by_cases hj3 : j < 350
      · rw [s70 j hj3, r70]
      · rw [em j (by omega) hj, r70]
  by_cases hin : 0 ≤ A.toInt ∧ A.toInt ≤ (gi 0 5).toInt
  · obtain ⟨n, hn⟩ : ∃ n : Nat, (n : Int) = A.toInt := ⟨A.toInt.toNat, by omega⟩
    obtain ⟨p1, pl⟩ := q1.1 hin n hn
    have p2 := k1 (by omega) (gi 2) n hn (fun j hj => by rw [r75]; exact (hT j (by omega)).1.symm) (fun j hj => (hT j (by omega)).2)
    have hlen := q1.2.2 hin
    have pl2 : ∀ K, K ≠ 0 → K < sh.length → g1 K = gi K ∧ l1 K = gl K ∧ r1 K = gr K := fun K a b => pl K a b
    rcases p1 with ⟨q, D, a1, a2, a3, a4, a5, a6, a7, a8⟩ | ⟨p, x, D, a0, a1, a2, a3, a4, a5, a6⟩
    · rcases p2 with ⟨q', D', b1, b2, b3, b4, b5, b6⟩ | ⟨p', x', D', b0, b1, -⟩
      · obtain rfl := s_ok_D (a1.symm.trans b1)
        refine ⟨⟨sh.length + 2, m6.trans a5, D, b2, ⟨Or.inr (by omega), by omega⟩, a8.fr (fun K c1 c2 => m0 K (by omega)), a7.cv.fr (fun K c1 c2 => m0 K (by omega)), b4.e⟩, fun k hk => ?_⟩
        rw [m12, r12] at hk
        obtain ⟨u, h4, h5⟩ := hD.2 k hk
        refine ⟨u, by rw [m19, r19]; exact h4, h5.fr hle (fun K hK => ?_) (fun j a b c => ?_)⟩
        · have a := m0 K (by omega)
          have b := pl2 K (by omega) (by omega)
          exact ⟨a.1.trans b.1, a.2.1.trans b.2.1, a.2.2.trans b.2.2⟩
        · rw [em _ (by omega) (by omega), r70]
      · exact (s_ok_bad b0 (a1.symm.trans b1)).elim
    · rcases p2 with ⟨q', D', b1, -⟩ | ⟨p', x', D', b0, b1, b2, b3, b4, b5⟩
      · exact (s_ok_bad a0 (b1.symm.trans a1)).elim
      · exact same a5 pl2 b5
  · have h := q1.2.1 hin
    exact same h.2.2.1 (fun K a _ => h.2.1 K a) (k2 (by omega)).2
/-- RULES: no RIVER is touched -/
theorem t_DR_rules (hD : t_DR sh.length gi gl gr) (h102 : 102 ≤ sh.length) (hle : sh.length ≤ sh1.length) (hm3 : (gi 0 12).toInt ≤ 3) (f1 : t_F w1 gi gl gr g1 l1 r1) (hw1 : (t_nc w1 70 && (t_nc w1 19 && t_un w1 (0, 12))) = true) (xm : t_X w2 sh1 g1 l1 r1 g2 l2 r2) (hw2 : (t_ndB w2 && (t_un w2 (0, 6) && (t_un w2 (0, 12) && t_nc w2 19))) = true) (em : ∀ j, j < 1400 → j % 350 ≠ 3 → j % 350 ≠ 8 → j % 350 < 100 → g2 70 j = g1 70 j) (q1 : ((0 ≤ A.toInt ∧ A.toInt ≤ (gi 0 5).toInt ∧ A.toInt ≤ 300) → ∀ n : Nat, (n : Int) = A.toInt → t_RSR gi gl gr sh.length (gi 2) n x1 g1 l1 r1) ∧ (¬ (0 ≤ A.toInt ∧ A.toInt ≤ (gi 0 5).toInt ∧ A.toInt ≤ 300) → x1.toInt = -1 ∧ (∀ K, K ≠ 0 → g1 K = gi K ∧ l1 K = gl K ∧ r1 K = gr K) ∧ r1 0 6 = gr 0 6 ∧ r1 0 7 = gr 0 7)) : t_DR sh1.length g2 l2 r2 := by
  simp only [Bool.and_eq_true] at hw1
  obtain ⟨n70, n19, n12⟩ := hw1
  have r70 : g1 70 = gi 70 := t_F_nc f1 n70 (by decide)
  have r12 : g1 0 12 = gi 0 12 := (f1 0 12 (by decide) (t_un_ok n12)).1
  have r19 : r1 19 = gr 19 := t_F_nr f1 n19 (by decide)
  obtain ⟨m0, m6, m12, m19⟩ := t_D_m xm hw2
  have key : r1 0 6 = gr 0 6 ∧ ∀ K, K ≠ 0 → K < sh.length → g1 K = gi K ∧ l1 K = gl K ∧ r1 K = gr K := by
    by_cases hin : 0 ≤ A.toInt ∧ A.toInt ≤ (gi 0 5).toInt ∧ A.toInt ≤ 300
    · obtain ⟨n, hn⟩ : ∃ n : Nat, (n : Int) = A.toInt := ⟨A.toInt.toNat, by omega⟩
      obtain ⟨p1, pl⟩ := q1.1 hin n hn
      refine ⟨?_, fun K a b => pl K a b⟩
      rcases p1 with ⟨k, a1, a2, a3, a4, a5, a6⟩ | ⟨p, x, a0, a1, a2, a3, a4, a5, a6⟩
      · exact a5
      · exact a5
    · have h := q1.2 hin
      exact ⟨h.2.2.1, fun K a _ => h.2.1 K a⟩
  refine t_DR_gen hD hle (fun K hK => ?_) (m6.trans key.1) (m12.trans r12) (m19.trans r19) (fun j hj a b c => ?_) hm3
  · have a := m0 K (by omega)
    have b := key.2 K (by omega) (by omega)
    exact ⟨a.1.trans b.1, a.2.1.trans b.2.1, a.2.2.trans b.2.2⟩
  · rw [em j hj a b c, r70]
theorem t_DR_mark (hR : t_R gi gr) (hD : t_DR sh.length gi gl gr) (hm0 : 0 ≤ (gi 0 12).toInt) (hm3 : (gi 0 12).toInt ≤ 3) (xh : t_X w1 sh gi gl gr g1 l1 r1) (hw1 : (t_ndB w1 && (t_un w1 (0, 6) && (t_nc w1 70 && t_un w1 (69, 75)))) = true) (xm : t_X w2 sh g1 l1 r1 g2 l2 r2) (hw2 : (t_ndB w2 && (t_un w2 (0, 6) && (t_un w2 (0, 12) && t_nc w2 19))) = true) (hc : ((gi 0 12).toInt = 3 → (g1 0 12).toInt = 3) ∧ ((gi 0 12).toInt ≠ 3 → (g1 0 12).toInt = (gi 0 12).toInt + 1)) (q1 : Q_d_mark gi gl gr x1 g1 l1 r1) (q2 : ((g1 69 75).toInt = 3 → g2 70 = g1 70) ∧ ((g1 69 75).toInt ≠ 3 → ∀ j, g2 70 j = t_cpy (g1 70) 0 ((g1 69 75).toInt.toNat + 1) 350 j)) : t_DR sh.length g2 l2 r2 := by
  simp only [Bool.and_eq_true] at hw1
  obtain ⟨n0, n6, n70, n75⟩ := hw1
  have f1 := t_F_X xh
  have c0 := t_nd_fr xh n0
  have r6 : r1 0 6 = gr 0 6 := (f1 0 6 (by decide) (t_un_ok n6)).2.2
  have r70 : g1 70 = gi 70 := t_F_nc f1 n70 (by decide)
  have r75 : (g1 69 75).toInt = (gi 0 12).toInt := by rw [(f1 69 75 (by decide) (t_un_ok n75)).1, ← t_R_mk hR]
  obtain ⟨m0, m6, m12, m19⟩ := t_D_m xm hw2
  have fr : ∀ K, (3 ≤ K ∧ K < 19) ∨ (102 ≤ K ∧ K < sh.length) → g2 K = gi K ∧ l2 K = gl K ∧ r2 K = gr K := fun K hK => by
    have a := m0 K (by omega)
    have b := c0 K (by omega)
    exact ⟨a.1.trans b.1, a.2.1.trans b.2.1, a.2.2.trans b.2.2⟩
  obtain ⟨d1, d2⟩ := q1
  obtain ⟨v, hv, hs⟩ := hD.1
  by_cases h3 : (gi 0 12).toInt = 3
  · have e70 : ∀ j, g2 70 j = gi 70 j := fun j => by rw [q2.1 (by omega), r70]
    refine ⟨⟨v, by rw [m6, r6]; exact hv, hs.fr (Nat.le_refl _) fr (fun j _ _ _ => e70 _)⟩, fun k hk => ?_⟩
    rw [m12] at hk
    obtain ⟨u, h4, h5⟩ := hD.2 k (by have := hc.1 h3; omega)
    exact ⟨u, by rw [m19, (d2 h3).1]; exact h4, h5.fr (Nat.le_refl _) fr (fun j _ _ _ => e70 _)⟩
  · have e70 : ∀ j, g2 70 j = t_cpy (gi 70) 0 ((gi 0 12).toInt.toNat + 1) 350 j := fun j => by rw [q2.2 (by omega), r70, r75]
    have ec := hc.2 h3
    have off : ∀ j, (j < 350 * ((gi 0 12).toInt.toNat + 1) ∨ 350 * ((gi 0 12).toInt.toNat + 1) + 350 ≤ j) → g2 70 j = gi 70 j := fun j hj => by
      rw [e70]; unfold t_cpy; rw [if_neg (by omega)]
    refine ⟨⟨v, by rw [m6, r6]; exact hv, hs.fr (Nat.le_refl _) fr (fun j _ _ _ => off _ (by omega))⟩, fun k hk => ?_⟩
    rw [m12] at hk
    by_cases hkm : (k : Int) = (gi 0 12).toInt
    · refine ⟨v, by rw [m19, (d1 h3).1, if_pos hkm]; exact hv, hs.fr (Nat.le_refl _) fr (fun j hj _ _ => ?_)⟩
      rw [e70]; unfold t_cpy
      rw [if_pos (by omega), show 350 * (k + 1) + j - 350 * ((gi 0 12).toInt.toNat + 1) + 350 * 0 = 0 + j by omega]
    · obtain ⟨u, h4, h5⟩ := hD.2 k (by omega)
      exact ⟨u, by rw [m19, (d1 h3).1, if_neg hkm]; exact h4, h5.fr (Nat.le_refl _) fr (fun j hj _ _ => off _ (by omega))⟩
theorem t_DR_back (hR : t_R gi gr) (hD : t_DR sh.length gi gl gr) (hm0 : 0 ≤ (gi 0 12).toInt) (hm3 : (gi 0 12).toInt ≤ 3) (xh : t_X w1 sh gi gl gr g1 l1 r1) (hw1 : (t_ndB w1 && (t_nc w1 19 && (t_nc w1 70 && t_un w1 (69, 75)))) = true) (xm : t_X w2 sh g1 l1 r1 g2 l2 r2) (hw2 : (t_ndB w2 && (t_un w2 (0, 6) && (t_un w2 (0, 12) && t_nc w2 19))) = true) (hc : ((gi 0 12).toInt = 0 → (g1 0 12).toInt = 0) ∧ ((gi 0 12).toInt ≠ 0 → (g1 0 12).toInt = (gi 0 12).toInt - 1)) (q1 : Q_d_back gi gl gr x1 g1 l1 r1) (q2 : ((g1 69 75).toInt = 0 → g2 70 = g1 70) ∧ ((g1 69 75).toInt ≠ 0 → ∀ j, g2 70 j = t_cpy (g1 70) (g1 69 75).toInt.toNat 0 350 j)) : t_DR sh.length g2 l2 r2 := by
  simp only [Bool.and_eq_true] at hw1
  obtain ⟨n0, n19, n70, n75⟩ := hw1
  have f1 := t_F_X xh
  have c0 := t_nd_fr xh n0
  have r19 : r1 19 = gr 19 := t_F_nr f1 n19 (by decide)
  have r70 : g1 70 = gi 70 := t_F_nc f1 n70 (by decide)
  have r75 : (g1 69 75).toInt = (gi 0 12).toInt := by rw [(f1 69 75 (by decide) (t_un_ok n75)).1, ← t_R_mk hR]
  obtain ⟨m0, m6, m12, m19⟩ := t_D_m xm hw2
  have fr : ∀ K, (3 ≤ K ∧ K < 19) ∨ (102 ≤ K ∧ K < sh.length) → g2 K = gi K ∧ l2 K = gl K ∧ r2 K = gr K := fun K hK => by
    have a := m0 K (by omega)
    have b := c0 K (by omega)
    exact ⟨a.1.trans b.1, a.2.1.trans b.2.1, a.2.2.trans b.2.2⟩
  obtain ⟨d1, d2⟩ := q1
  by_cases h3 : (gi 0 12).toInt = 0
  · obtain ⟨v, hv, hs⟩ := hD.1
    have e70 : ∀ j, g2 70 j = gi 70 j := fun j => by rw [q2.1 (by omega), r70]
    refine ⟨⟨v, by rw [m6, (d1 h3).1]; exact hv, hs.fr (Nat.le_refl _) fr (fun j _ _ _ => e70 _)⟩, fun k hk => ?_⟩
    rw [m12] at hk
    have := hc.1 h3
    omega
  · have e70 : ∀ j, g2 70 j = t_cpy (gi 70) (gi 0 12).toInt.toNat 0 350 j := fun j => by rw [q2.2 (by omega), r70, r75]
    have ec := hc.2 h3
    have off : ∀ j, 350 ≤ j → g2 70 j = gi 70 j := fun j hj => by
      rw [e70]; unfold t_cpy; rw [if_neg (by omega)]
    obtain ⟨v, hv, hs⟩ := hD.2 ((gi 0 12).toInt - 1).toNat (by omega)
    refine ⟨⟨v, by rw [m6, (d2 h3).1]; exact hv, hs.fr (Nat.le_refl _) fr (fun j hj _ _ => ?_)⟩, fun k hk => ?_⟩
    · rw [e70]; unfold t_cpy
      rw [if_pos (by omega), show 0 + j - 350 * 0 + 350 * (gi 0 12).toInt.toNat = 350 * (((gi 0 12).toInt - 1).toNat + 1) + j by omega]
    · rw [m12] at hk
      obtain ⟨u, h4, h5⟩ := hD.2 k (by omega)
      exact ⟨u, by rw [m19, r19]; exact h4, h5.fr (Nat.le_refl _) fr (fun j hj _ _ => off _ (by omega))⟩
/-- a sail is one or none -/
theorem t_D_sail {D : s_D} (hI : t_I sh gi gr) (hb : t_Cb D) (hm : t_ME 0 gi D) : ∀ s : Nat, (s : Int) < D 1 → 0 ≤ D (56 + 5 * s) ∧ D (56 + 5 * s) ≤ 1 := by
  intro s hs
  have h1 := hm.2.2.1 (56 + 5 * s) (by omega) (by omega)
  rw [Nat.zero_add] at h1
  have hs6 : s = 0 ∨ s = 1 ∨ s = 2 ∨ s = 3 ∨ s = 4 ∨ s = 5 := by have := hb.2.1.2; omega
  have key : 0 ≤ (gi 70 (56 + 5 * s)).toInt ∧ (gi 70 (56 + 5 * s)).toInt ≤ 1 := by
    rcases hs6 with rfl | rfl | rfl | rfl | rfl | rfl
    · exact hI.ab (i := 56) (j := 56) (by decide +kernel) (Nat.le_refl _) (Nat.le_refl _)
    · exact hI.ab (i := 61) (j := 61) (by decide +kernel) (Nat.le_refl _) (Nat.le_refl _)
    · exact hI.ab (i := 66) (j := 66) (by decide +kernel) (Nat.le_refl _) (Nat.le_refl _)
    · exact hI.ab (i := 71) (j := 71) (by decide +kernel) (Nat.le_refl _) (Nat.le_refl _)
    · exact hI.ab (i := 76) (j := 76) (by decide +kernel) (Nat.le_refl _) (Nat.le_refl _)
    · exact hI.ab (i := 81) (j := 81) (by decide +kernel) (Nat.le_refl _) (Nat.le_refl _)
  rw [h1] at key
  exact key
/-- the slot of the other side behind the class's call -/
theorem t_D_0 (hD : t_DR sh.length gi gl gr) (f1 : t_F w1 gi gl gr g1 l1 r1) (h70 : t_nc w1 70 = true) : ∃ (u : Nat) (D : s_D), gr 0 6 = .ref u ∧ t_VL gr u ∧ t_CV gi gl u D ∧ t_Cb D ∧ t_ME 0 g1 D ∧ t_ME 0 gi D := by
  obtain ⟨u, hu, D, hb, -, hl, hc, hm⟩ := hD.1
  have r70 : g1 70 = gi 70 := t_F_nc f1 h70 (by decide)
  exact ⟨u, D, hu, hl, hc, hb, by unfold t_ME; rw [r70]; exact hm, hm⟩
theorem t_L_ship (hI : t_I sh gi gr) (hD : t_DR sh.length gi gl gr) (f1 : t_F w1 gi gl gr g1 l1 r1) (h70 : t_nc w1 70 = true) (q1 : Q_d_ship gi gl gr A A2 x1 g1 l1 r1) (q2 : Q_e_ship g1 l1 r1 A A2 x2 g2 l2 r2) : x1 = x2 := by
  obtain ⟨u, D, hu, hl, hc, hb, hm, hm'⟩ := t_D_0 hD f1 h70
  have k1 := q1 u D hu hl hc hb (t_D_sail hI hb hm')
  have k2 := q2 D hm hb
  apply Int32.toInt_inj.mp
  by_cases hin : 0 ≤ A.toInt ∧ A.toInt < D 1 ∧ 0 ≤ A2.toInt ∧ A2.toInt ≤ 4
  · rw [k1.1 hin, k2.1 hin]
  · rw [k1.2 hin, k2.2 hin]
theorem t_L_cart (hD : t_DR sh.length gi gl gr) (f1 : t_F w1 gi gl gr g1 l1 r1) (h70 : t_nc w1 70 = true) (q1 : Q_d_cart gi gl gr A A2 x1 g1 l1 r1) (q2 : Q_e_cart g1 l1 r1 A A2 x2 g2 l2 r2) : x1 = x2 := by
  obtain ⟨u, D, hu, hl, hc, hb, hm, -⟩ := t_D_0 hD f1 h70
  have k1 := q1 u D hu hl hc hb
  have k2 := q2 D hm hb
  apply Int32.toInt_inj.mp
  by_cases hin : 0 ≤ A.toInt ∧ A.toInt < D 2 ∧ 0 ≤ A2.toInt ∧ A2.toInt ≤ 2
  · rw [k1.1 hin, k2.1 hin]
  · rw [k1.2 hin, k2.2 hin]
end DLAW
/-! ===== RIVERS: the start; RULES' places ===== -/
noncomputable def t_nGB (wl : List (Nat × Nat)) (k lo hi : Nat) : Bool := wl.all (fun q => !(q.1 == k) || (!(q.2 == 9999) && (if q.2 < 10000 then decide (q.2 < lo) || decide (hi ≤ q.2) else decide ((q.2 - 10000) % 100000 < lo) || decide (hi ≤ (q.2 - 10000) / 100000))))
theorem t_nD {wl : List (Nat × Nat)} (h : (t_nGB wl 70 0 3 && (t_nGB wl 70 4 8 && (t_nGB wl 70 9 100 && t_nGB wl 70 350 1400))) = true) {j : Nat} (a : j < 1400) (b : j % 350 ≠ 3) (c : j % 350 ≠ 8) (d : j % 350 < 100) : t_in wl 70 j = false := by
  simp only [Bool.and_eq_true] at h
  obtain ⟨h1, h2, h3, h4⟩ := h
  by_cases q : 350 ≤ j
  · exact t_nG h4 q a
  · have e : j % 350 = j := Nat.mod_eq_of_lt (by omega)
    rw [e] at b c d
    by_cases q1 : j < 3
    · exact t_nG h1 (Nat.zero_le _) q1
    · by_cases q2 : j < 8
      · exact t_nG h2 (by omega) q2
      · exact t_nG h3 (by omega) d
theorem W1_DR {sh : List (Nat ⊕ (Nat × Nat))} {gi : Nat → Nat → Int32} {gl : Nat → Nat → Int64} {gr : Nat → Nat → Value} (hR : x_R W1 (sh, gi, gl, gr)) : t_DR sh.length gi gl gr := by
  have hw := W1_WF hR
  have hrd : ∀ {k j : Nat} {c : x_C}, x_gc W1 k = some c → j < 2 ^ x_dp c.1 → gi k j = x_cI c j := fun hc hj => ((x_gc_R hR hc).2.2.2 _ hj).1
  have hl : 102 ≤ sh.length := t_102 hw
  have z3 : ∀ {j : Nat} {x : Int32}, j < 2 ^ x_dp w1_c3.1 → x_cI w1_c3 j = x → gi 3 j = x := fun hj e => (hrd (c := w1_c3) rfl hj).trans e
  have z70 : ∀ {j : Nat} {x : Int32}, j < 2 ^ x_dp w1_c70.1 → x_cI w1_c70 j = x → gi 70 j = x := fun hj e => (hrd (c := w1_c70) rfl hj).trans e
  refine ⟨⟨3, ((x_gc_R hR (c := w1_c0) rfl).2.2.2 6 (by decide)).2.2.trans rfl, s_D0, ⟨⟨by decide, by decide⟩, ⟨by decide, by decide⟩, by decide, by decide⟩, ⟨Or.inl rfl, by omega⟩, ⟨⟨hw.r rfl, hw.r rfl, hw.r rfl, hw.r rfl, hw.r rfl⟩, ⟨hw.r rfl, hw.r rfl, hw.r rfl, hw.r rfl, hw.r rfl⟩, hw.r rfl, hw.r rfl, hw.r rfl, hw.r rfl, hw.r rfl⟩, ?_, ?_⟩, fun k hk => ?_⟩
  · have a0 : gi 3 0 = 0 := z3 (by decide) rfl
    have a3 : gi 3 3 = 5 := z3 (by decide) rfl
    have a4 : gi 3 4 = 0 := z3 (by decide) rfl
    have a5 : gi 3 5 = 0 := z3 (by decide) rfl
    have a6 : gi 3 6 = 0 := z3 (by decide) rfl
    have b0 : gi 6 0 = 0 := (hrd (c := w1_c6) rfl (by decide)).trans rfl
    have c0 : gi 13 0 = 0 := (hrd (c := w1_c13) rfl (by decide)).trans rfl
    refine ⟨⟨by rw [a0]; rfl, fun i hi => absurd (show (i : Int) < 0 from hi) (by omega)⟩, ⟨by rw [a3]; rfl, by rw [a4]; rfl, by rw [a5]; rfl, by rw [a6]; rfl⟩, ⟨?_, fun i hi => absurd (show (i : Int) < 0 from hi) (by omega)⟩, ?_, fun i hi => absurd (show (i : Int) < 0 from hi) (by omega)⟩
    · show (gi 6 0).toInt = 0; rw [b0]; rfl
    · show (gi 13 0).toInt = 0; rw [c0]; rfl
  · have a0 : gi 70 0 = 0 := z70 (by decide) rfl
    have a1 : gi 70 1 = 0 := z70 (by decide) rfl
    have a2 : gi 70 2 = 0 := z70 (by decide) rfl
    have a4 : gi 70 4 = 5 := z70 (by decide) rfl
    have a5 : gi 70 5 = 0 := z70 (by decide) rfl
    have a6 : gi 70 6 = 0 := z70 (by decide) rfl
    have a7 : gi 70 7 = 0 := z70 (by decide) rfl
    refine ⟨⟨⟨by rw [a0]; rfl, ?_, ?_⟩, ?_, ?_, ?_, ?_⟩, fun i hi => absurd (show (i : Int) < 0 from hi) (by omega), fun j hj hj2 => ?_, fun j hj hj2 => ?_⟩
    · show (gi 70 1).toInt = 0; rw [a1]; rfl
    · show (gi 70 2).toInt = 0; rw [a2]; rfl
    · show (gi 70 4).toInt = 5; rw [a4]; rfl
    · show (gi 70 5).toInt = 0; rw [a5]; rfl
    · show (gi 70 6).toInt = 0; rw [a6]; rfl
    · show (gi 70 7).toInt = 0; rw [a7]; rfl
    · have h : (j : Int) < 52 + 5 * 0 := hj2
      omega
    · have h : (j : Int) < 82 + 3 * 0 := hj2
      omega
  · have h12 : gi 0 12 = 0 := hrd (c := w1_c0) rfl (by decide)
    have h0 : (0 : Int32).toInt = 0 := rfl
    rw [h12] at hk; omega
noncomputable def t_LD (c : Nat) (sh : List (Nat ⊕ (Nat × Nat))) (gi : Nat → Nat → Int32) (gl : Nat → Nat → Int64) (gr : Nat → Nat → Value) : Prop := t_LT c sh gi gl gr ∧ t_DR sh.length gi gl gr
/-! ===== a text refused ahead: nothing of the FAULT is touched; rules() answers alike ===== -/
theorem c_n_begins0 {X : x_Ext} {d : Nat} {sh : List (Nat ⊕ (Nat × Nat))} {gi : Nat → Nat → Int32} {gl : Nat → Nat → Int64} {gr : Nat → Nat → Value} (hI : t_I sh gi gr) (ar1 ar2 : Int32) (hn : ¬ (0 ≤ ar1.toInt ∧ ar1.toInt ≤ (gi 69 10).toInt ∧ ar1.toInt ≤ ar2.toInt)) : x_Me X (d + 3) n_X12_begins [.ref 69, .int ar1, .int ar2] (sh, gi, gl, gr) (t_PI [] sh gi gl gr 0 0 (fun _ _ _ _ => True)) := by
  have kf0 : (0 : Int32).toInt = 0 := (by decide)
  refine me_i f_X12_begins (hI.wf.s rfl) rfl rfl rfl ?_
  refine ev_loc f_X12_begins (nx := 1) rfl rfl rfl rfl ?_
  refine ev_if f_X12_begins (t1 := 17) (t2 := 4) rfl rfl rfl (fun h1 => ?_) (fun h1 => ?_)
  · refine ev_ic f_X12_begins (nx := 18) (v := 0) rfl (by decide) rfl ?_
    exact ev_ret f_X12_begins rfl rfl rfl ⟨_, _, _, rfl, hI, t_X.rf, ⟨_, rfl, by decide, by decide, trivial⟩⟩
  have h1 := Int32.le_iff_toInt_le.mp (t_nlt h1)
  refine ev_loc f_X12_begins (nx := 5) rfl rfl rfl rfl ?_
  refine ev_loc f_X12_begins (nx := 6) rfl rfl rfl rfl ?_
  refine ev_gvI f_X12_begins (nx := 9) (w := (gi 69 10)) rfl (hI.wf.s rfl) rfl rfl rfl rfl ?_
  refine ev_if f_X12_begins (t1 := 17) (t2 := 12) rfl rfl rfl (fun h2 => ?_) (fun h2 => ?_)
  · refine ev_ic f_X12_begins (nx := 18) (v := 0) rfl (by decide) rfl ?_
    exact ev_ret f_X12_begins rfl rfl rfl ⟨_, _, _, rfl, hI, t_X.rf, ⟨_, rfl, by decide, by decide, trivial⟩⟩
  have h2 := Int32.le_iff_toInt_le.mp (t_nlt h2)
  refine ev_loc f_X12_begins (nx := 13) rfl rfl rfl rfl ?_
  refine ev_loc f_X12_begins (nx := 14) rfl rfl rfl rfl ?_
  refine ev_if f_X12_begins (t1 := 19) (t2 := 17) rfl rfl rfl (fun h3 => ?_) (fun h3 => ?_)
  · exact absurd (show (0 ≤ ar1.toInt ∧ ar1.toInt ≤ (gi 69 10).toInt ∧ ar1.toInt ≤ ar2.toInt) from ⟨by omega, by omega, Int32.le_iff_toInt_le.mp h3⟩) hn
  · refine ev_ic f_X12_begins (nx := 18) (v := 0) rfl (by decide) rfl ?_
    exact ev_ret f_X12_begins rfl rfl rfl ⟨_, _, _, rfl, hI, t_X.rf, ⟨_, rfl, by decide, by decide, trivial⟩⟩
theorem c_n_riverF {X : x_Ext} {d : Nat} {sh : List (Nat ⊕ (Nat × Nat))} {gi : Nat → Nat → Int32} {gl : Nat → Nat → Int64} {gr : Nat → Nat → Value} (hI : t_I sh gi gr) (ar1 : Int32) : x_Me X (d + 10) n_X12_river [.ref 69, .int ar1] (sh, gi, gl, gr) (t_PI wl_n_river sh gi gl gr (-1) 6 (fun v g l r => Q_n_river gi gl gr ar1 v g l r ∧ (¬ (0 ≤ ar1.toInt ∧ ar1.toInt ≤ (gi 69 10).toInt) → g 69 16 = gi 69 16 ∧ g 69 17 = gi 69 17))) := by
  by_cases hin : (0 ≤ ar1.toInt ∧ ar1.toInt ≤ (gi 69 10).toInt)
  · refine (c_n_river hI ar1).mono ?_
    rintro v G1 ⟨g1, l1, r1, rfl, k1, k2, x, rfl, a, b, q⟩
    exact ⟨g1, l1, r1, rfl, k1, k2, x, rfl, a, b, q, fun hh => absurd hin hh⟩
  have hX : t_X wl_n_river sh gi gl gr gi gl gr := t_X.rf
  have hu := hI.b (hI.wf.s (k := 69) rfl) (t_bdK rfl : t_bd 11 10 = some (0, 900))
  have km : (900 : Int32).toInt = 900 := rfl
  have kf0 : (0 : Int32).toInt = 0 := (by decide)
  refine me_i f_X12_river (hI.wf.s rfl) rfl rfl rfl ?_
  refine ev_loc f_X12_river (nx := 1) rfl rfl rfl rfl ?_
  refine ev_loc f_X12_river (nx := 2) rfl rfl rfl rfl ?_
  refine ev_sp f_X12_river (nx := 5) (v := 900) rfl (by decide) rfl ?_
  refine ev_qI0 f_X12_river (nx := 8) (r := []) rfl rfl rfl rfl rfl rfl rfl (c_n_begins0 hI ar1 900 (fun h => hin (by omega))) rfl (fun w lw uw _ => ?_)
  refine ev_if f_X12_river (t1 := 11) (t2 := 17) rfl rfl rfl (fun h3 => ?_) (fun h3 => ?_)
  rotate_left
  · exact absurd (Int32.toInt_inj.mp (by omega)) h3
  refine ev_loc f_X12_river (nx := 12) rfl rfl rfl rfl ?_
  refine ev_ic f_X12_river (nx := 13) (v := 1) rfl (by decide) rfl ?_
  refine ev_inV2 f_X12_river (nx := 16) (lo2 := [(0, .ref 69), (1, .int 1)]) rfl rfl rfl rfl f_X12_refuse (hI.wf.s rfl) rfl rfl rfl rfl rfl ?_
  refine ev_loc f_X12_refuse (nx := 1) rfl rfl rfl rfl ?_
  refine ev_loc f_X12_refuse (nx := 2) rfl rfl rfl rfl ?_
  refine ev_putIT f_X12_refuse (nx := 5) rfl (hI.wf.s rfl) rfl rfl rfl (hI.put0 (hI.wf.s rfl) rfl rfl) (hX.upI rfl) (fun g4 e4 hI hX => ?_)
  refine ev_ic f_X12_refuse (nx := 6) (v := -1) rfl (by decide) rfl ?_
  refine ev_retK1 f_X12_refuse rfl rfl rfl ?_
  exact ev_ret f_X12_river rfl rfl rfl ⟨_, _, _, rfl, hI, hX, ⟨_, rfl, by decide, by decide, And.intro (And.intro (fun hh => absurd hh hin) (fun _ => And.intro rfl (fun j _ => by rw [e4, x_up2_ne (by decide)]))) (fun _ => ⟨by rw [e4]; exact x_up2_off (Or.inr (by decide)), by rw [e4]; exact x_up2_off (Or.inr (by decide))⟩)⟩⟩
theorem c_n_rulesF {X : x_Ext} {d : Nat} {sh : List (Nat ⊕ (Nat × Nat))} {gi : Nat → Nat → Int32} {gl : Nat → Nat → Int64} {gr : Nat → Nat → Value} (hI : t_I sh gi gr) (ar1 : Int32) : x_Me X (d + 9) n_X12_rules [.ref 69, .int ar1] (sh, gi, gl, gr) (t_PI wl_n_rules sh gi gl gr (-1) 12 (fun v g l r => Q_n_rules gi gl gr ar1 v g l r ∧ (¬ (0 ≤ ar1.toInt ∧ ar1.toInt ≤ (gi 69 10).toInt ∧ ar1.toInt ≤ 300) → g 69 16 = gi 69 16 ∧ g 69 17 = gi 69 17))) := by
  by_cases hin : (0 ≤ ar1.toInt ∧ ar1.toInt ≤ (gi 69 10).toInt ∧ ar1.toInt ≤ 300)
  · refine (c_n_rules hI ar1).mono ?_
    rintro v G1 ⟨g1, l1, r1, rfl, k1, k2, x, rfl, a, b, q⟩
    exact ⟨g1, l1, r1, rfl, k1, k2, x, rfl, a, b, q, fun hh => absurd hin hh⟩
  have hX : t_X wl_n_rules sh gi gl gr gi gl gr := t_X.rf
  have hu := hI.b (hI.wf.s (k := 69) rfl) (t_bdK rfl : t_bd 11 10 = some (0, 900))
  have km : (300 : Int32).toInt = 300 := rfl
  have kf0 : (0 : Int32).toInt = 0 := (by decide)
  refine me_i f_X12_rules (hI.wf.s rfl) rfl rfl rfl ?_
  refine ev_loc f_X12_rules (nx := 1) rfl rfl rfl rfl ?_
  refine ev_loc f_X12_rules (nx := 2) rfl rfl rfl rfl ?_
  refine ev_sp f_X12_rules (nx := 5) (v := 300) rfl (by decide) rfl ?_
  refine ev_qI0 f_X12_rules (nx := 8) (r := []) rfl rfl rfl rfl rfl rfl rfl (c_n_begins0 hI ar1 300 (fun h => hin (by omega))) rfl (fun w lw uw _ => ?_)
  refine ev_if f_X12_rules (t1 := 11) (t2 := 17) rfl rfl rfl (fun h3 => ?_) (fun h3 => ?_)
  rotate_left
  · exact absurd (Int32.toInt_inj.mp (by omega)) h3
  refine ev_loc f_X12_rules (nx := 12) rfl rfl rfl rfl ?_
  refine ev_ic f_X12_rules (nx := 13) (v := 1) rfl (by decide) rfl ?_
  refine ev_inV2 f_X12_rules (nx := 16) (lo2 := [(0, .ref 69), (1, .int 1)]) rfl rfl rfl rfl f_X12_refuse (hI.wf.s rfl) rfl rfl rfl rfl rfl ?_
  refine ev_loc f_X12_refuse (nx := 1) rfl rfl rfl rfl ?_
  refine ev_loc f_X12_refuse (nx := 2) rfl rfl rfl rfl ?_
  refine ev_putIT f_X12_refuse (nx := 5) rfl (hI.wf.s rfl) rfl rfl rfl (hI.put0 (hI.wf.s rfl) rfl rfl) (hX.upI rfl) (fun g4 e4 hI hX => ?_)
  refine ev_ic f_X12_refuse (nx := 6) (v := -1) rfl (by decide) rfl ?_
  refine ev_retK1 f_X12_refuse rfl rfl rfl ?_
  exact ev_ret f_X12_rules rfl rfl rfl ⟨_, _, _, rfl, hI, hX, ⟨_, rfl, by decide, by decide, And.intro (And.intro (fun hh => absurd hh hin) (fun _ => And.intro rfl (by rw [e4, x_up2_ne (by decide)]))) (fun _ => ⟨by rw [e4]; exact x_up2_off (Or.inr (by decide)), by rw [e4]; exact x_up2_off (Or.inr (by decide))⟩)⟩⟩
theorem c_s_riverF {X : x_Ext} {d : Nat} {sh : List (Nat ⊕ (Nat × Nat))} {gi : Nat → Nat → Int32} {gl : Nat → Nat → Int64} {gr : Nat → Nat → Value} (hI : t_I sh gi gr) (hH : t_H sh) (ar1 : Int32) : x_Me X (d + 11) n_X11_river [.ref 0, .int ar1] (sh, gi, gl, gr) (fun v G1 => ∃ sh1 g l r x, G1 = (sh1, g, l, r) ∧ v = some (.int x) ∧ (((0 ≤ ar1.toInt ∧ ar1.toInt ≤ (gi 0 5).toInt) → ∀ n : Nat, (n : Int) = ar1.toInt → t_RES gi gl gr sh.length (gi 2) n x g l r) ∧ (¬ (0 ≤ ar1.toInt ∧ ar1.toInt ≤ (gi 0 5).toInt) → x.toInt = -1 ∧ (∀ K, K ≠ 0 → g K = gi K ∧ l K = gl K ∧ r K = gr K) ∧ r 0 6 = gr 0 6 ∧ r 0 7 = gr 0 7) ∧ ((0 ≤ ar1.toInt ∧ ar1.toInt ≤ (gi 0 5).toInt) → sh.length + 18 ≤ sh1.length)) ∧ (¬ (0 ≤ ar1.toInt ∧ ar1.toInt ≤ (gi 0 5).toInt) → g 0 8 = gi 0 8 ∧ g 0 9 = gi 0 9)) := by
  by_cases hin : (0 ≤ ar1.toInt ∧ ar1.toInt ≤ (gi 0 5).toInt)
  · refine (c_s_river hI hH ar1).mono ?_
    rintro v G1 ⟨sh1, g, l, r, x, e1, e2, h⟩
    exact ⟨sh1, g, l, r, x, e1, e2, h, fun hh => absurd hin hh⟩
  have kf0 : (0 : Int32).toInt = 0 := (by decide)
  refine me_i f_X11_river (hI.wf.s rfl) rfl rfl rfl ?_
  refine ev_loc f_X11_river (nx := 1) rfl rfl rfl rfl ?_
  refine ev_if f_X11_river (t1 := 12) (t2 := 4) rfl rfl rfl (fun h1 => ?_) (fun h1 => ?_)
  · refine x_Ev.mono (x_Ev.up (c_t_riverN (d := d) hI ar1) (by omega)) ?_
    rintro v G1 ⟨g1, l1, r1, rfl, k1, k2, x, rfl, -, -, k3⟩
    exact ⟨sh, g1, l1, r1, x, rfl, rfl, ⟨fun hi => absurd hi hin, fun _ => ⟨k3, fun K hK => t_row0 k2 rfl hK, (k2.1 0 6 rfl).2.2, (k2.1 0 7 rfl).2.2⟩, fun hi => absurd hi hin⟩, fun _ => ⟨(k2.1 0 8 rfl).1, (k2.1 0 9 rfl).1⟩⟩
  have h1 := Int32.le_iff_toInt_le.mp (t_nlt h1)
  refine ev_loc f_X11_river (nx := 5) rfl rfl rfl rfl ?_
  refine ev_loc f_X11_river (nx := 6) rfl rfl rfl rfl ?_
  refine ev_getI f_X11_river (nx := 9) rfl (hI.wf.s rfl) rfl rfl rfl ?_
  refine ev_if f_X11_river (t1 := 18) (t2 := 12) rfl rfl rfl (fun h2 => ?_) (fun h2 => ?_)
  · exact absurd (show (0 ≤ ar1.toInt ∧ ar1.toInt ≤ (gi 0 5).toInt) from ⟨by omega, Int32.le_iff_toInt_le.mp h2⟩) hin
  · refine x_Ev.mono (x_Ev.up (c_t_riverN (d := d) hI ar1) (by omega)) ?_
    rintro v G1 ⟨g1, l1, r1, rfl, k1, k2, x, rfl, -, -, k3⟩
    exact ⟨sh, g1, l1, r1, x, rfl, rfl, ⟨fun hi => absurd hi hin, fun _ => ⟨k3, fun K hK => t_row0 k2 rfl hK, (k2.1 0 6 rfl).2.2, (k2.1 0 7 rfl).2.2⟩, fun hi => absurd hi hin⟩, fun _ => ⟨(k2.1 0 8 rfl).1, (k2.1 0 9 rfl).1⟩⟩
theorem c_u_rulesF {X : x_Ext} {d : Nat} {sh : List (Nat ⊕ (Nat × Nat))} {gi : Nat → Nat → Int32} {gl : Nat → Nat → Int64} {gr : Nat → Nat → Value} (hI : t_I sh gi gr) (hH : t_H sh) (ar1 : Int32) : x_Me X (d + 70) n_X11_rules [.ref 0, .int ar1] (sh, gi, gl, gr) (fun v G1 => ∃ sh1 g l r x, G1 = (sh1, g, l, r) ∧ v = some (.int x) ∧ (((0 ≤ ar1.toInt ∧ ar1.toInt ≤ (gi 0 5).toInt ∧ ar1.toInt ≤ 300) → ∀ n : Nat, (n : Int) = ar1.toInt → t_RSR gi gl gr sh.length (gi 2) n x g l r) ∧ (¬ (0 ≤ ar1.toInt ∧ ar1.toInt ≤ (gi 0 5).toInt ∧ ar1.toInt ≤ 300) → x.toInt = -1 ∧ (∀ K, K ≠ 0 → g K = gi K ∧ l K = gl K ∧ r K = gr K) ∧ r 0 6 = gr 0 6 ∧ r 0 7 = gr 0 7)) ∧ (¬ (0 ≤ ar1.toInt ∧ ar1.toInt ≤ (gi 0 5).toInt ∧ ar1.toInt ≤ 300) → g 0 8 = gi 0 8 ∧ g 0 9 = gi 0 9)) := by
  by_cases hin : (0 ≤ ar1.toInt ∧ ar1.toInt ≤ (gi 0 5).toInt ∧ ar1.toInt ≤ 300)
  · refine (c_u_rules hI hH ar1).mono ?_
    rintro v G1 ⟨sh1, g, l, r, x, e1, e2, h⟩
    exact ⟨sh1, g, l, r, x, e1, e2, h, fun hh => absurd hin hh⟩
  have kf0 : (0 : Int32).toInt = 0 := (by decide)
  refine me_i f_X11_rules (hI.wf.s rfl) rfl rfl rfl ?_
  refine ev_loc f_X11_rules (nx := 1) rfl rfl rfl rfl ?_
  refine ev_if f_X11_rules (t1 := 19) (t2 := 4) rfl rfl rfl (fun h1 => ?_) (fun h1 => ?_)
  · refine x_Ev.mono (x_Ev.up (c_t_rulesN (d := d) hI ar1) (by omega)) ?_
    rintro v G1 ⟨g1, l1, r1, rfl, k1, k2, x, rfl, -, -, k3⟩
    exact ⟨sh, g1, l1, r1, x, rfl, rfl, ⟨fun hi => absurd hi hin, fun _ => ⟨k3, fun K hK => t_row0 k2 rfl hK, (k2.1 0 6 rfl).2.2, (k2.1 0 7 rfl).2.2⟩⟩, fun _ => ⟨(k2.1 0 8 rfl).1, (k2.1 0 9 rfl).1⟩⟩
  have h1 := Int32.le_iff_toInt_le.mp (t_nlt h1)
  refine ev_loc f_X11_rules (nx := 5) rfl rfl rfl rfl ?_
  refine ev_loc f_X11_rules (nx := 6) rfl rfl rfl rfl ?_
  refine ev_getI f_X11_rules (nx := 9) rfl (hI.wf.s rfl) rfl rfl rfl ?_
  refine ev_if f_X11_rules (t1 := 19) (t2 := 12) rfl rfl rfl (fun h2 => ?_) (fun h2 => ?_)
  · refine x_Ev.mono (x_Ev.up (c_t_rulesN (d := d) hI ar1) (by omega)) ?_
    rintro v G1 ⟨g1, l1, r1, rfl, k1, k2, x, rfl, -, -, k3⟩
    exact ⟨sh, g1, l1, r1, x, rfl, rfl, ⟨fun hi => absurd hi hin, fun _ => ⟨k3, fun K hK => t_row0 k2 rfl hK, (k2.1 0 6 rfl).2.2, (k2.1 0 7 rfl).2.2⟩⟩, fun _ => ⟨(k2.1 0 8 rfl).1, (k2.1 0 9 rfl).1⟩⟩
  have h2 := Int32.le_iff_toInt_le.mp (t_nlt h2)
  refine ev_loc f_X11_rules (nx := 13) rfl rfl rfl rfl ?_
  refine ev_sp f_X11_rules (nx := 16) (v := 300) rfl (by decide) rfl ?_
  refine ev_if f_X11_rules (t1 := 25) (t2 := 19) rfl rfl rfl (fun h3 => ?_) (fun h3 => ?_)
  · have h3 := Int32.le_iff_toInt_le.mp h3
    have k3 : (300 : Int32).toInt = 300 := rfl
    exact absurd (show (0 ≤ ar1.toInt ∧ ar1.toInt ≤ (gi 0 5).toInt ∧ ar1.toInt ≤ 300) from ⟨by omega, by omega, by omega⟩) hin
  · refine x_Ev.mono (x_Ev.up (c_t_rulesN (d := d) hI ar1) (by omega)) ?_
    rintro v G1 ⟨g1, l1, r1, rfl, k1, k2, x, rfl, -, -, k3⟩
    exact ⟨sh, g1, l1, r1, x, rfl, rfl, ⟨fun hi => absurd hi hin, fun _ => ⟨k3, fun K hK => t_row0 k2 rfl hK, (k2.1 0 6 rfl).2.2, (k2.1 0 7 rfl).2.2⟩⟩, fun _ => ⟨(k2.1 0 8 rfl).1, (k2.1 0 9 rfl).1⟩⟩
section LRU
variable {gi g1 g2 : Nat → Nat → Int32} {gl l1 l2 : Nat → Nat → Int64} {gr r1 r2 : Nat → Nat → Value} {w1 w2 : List (Nat × Nat)} {A x1 x2 : Int32} {N N2 : Nat}
theorem s_rls_ob {b : Nat → Int32} {n p : Nat} {k : Nat} {x : Int} (hx : x ≠ 0) (h : (((0 : Int), (0 : Int)), k) = ((s_qb b n p x).1, 0)) : False :=
  s_fk_ne (b := b) (n := n) (p := p) hx (congrArg (fun r : (Int × Int) × Nat => r.1.1) h).symm
/-- what both come to -/
theorem t_RU_two (hT : t_TP gi) (hR : t_R gi gr) (f1 : t_F w1 gi gl gr g1 l1 r1) (h75 : t_nc w1 75 = true) (h69 : t_in w1 69 10 = false) (hin : 0 ≤ A.toInt ∧ A.toInt ≤ (gi 0 5).toInt ∧ A.toInt ≤ 300) (q1 : (0 ≤ A.toInt ∧ A.toInt ≤ (gi 0 5).toInt ∧ A.toInt ≤ 300) → ∀ n : Nat, (n : Int) = A.toInt → t_RSR gi gl gr N (gi 2) n x1 g1 l1 r1) (q2 : Q_n_rules g1 l1 r1 A x2 g2 l2 r2) : (∃ k : Nat, (x1.toInt = (k : Int) ∧ x2.toInt = (k : Int)) ∧ ((g1 0 8).toInt = 0 ∧ (g1 0 9).toInt = -1) ∧ ((g2 69 16).toInt = 0 ∧ (g2 69 17).toInt = -1) ∧ (r1 0 7 = .ref (N + 2) ∧ (g1 (N + 2) 0).toInt = (k : Int)) ∧ (g2 70 3).toInt = (k : Int)) ∨ ((x1.toInt = -1 ∧ x2.toInt = -1) ∧ ((g1 0 8).toInt = (g2 69 16).toInt ∧ (g1 0 9).toInt = (g2 69 17).toInt) ∧ r1 0 7 = gr 0 7 ∧ g2 70 3 = g1 70 3) := by
  have e0 : (gi 0 5).toInt = (gi 69 10).toInt := congrArg Int32.toInt (t_R_fed hR)
  have e1 : (g1 69 10).toInt = (gi 69 10).toInt := congrArg Int32.toInt (f1 69 10 (by decide) h69).1
  have r75 : g1 75 = gi 75 := t_F_nc f1 h75 (by decide)
  obtain ⟨n, hn⟩ : ∃ n : Nat, (n : Int) = A.toInt := ⟨A.toInt.toNat, by omega⟩
  have k1 := (q1 hin n hn).1
  have k2 := q2.1 (by omega) (gi 2) n hn (fun j hj => by rw [r75]; exact (hT j (by omega)).1.symm) (fun j hj => (hT j (by omega)).2)
  rcases k1 with ⟨k, a1, a2, a3, a4, a5, a6, a7⟩ | ⟨p, x, a0, a1, a2, a3, a4, a5, a6⟩
  · rcases k2 with ⟨k', b1, b2, b3, b4, b5⟩ | ⟨p', x', b0, b1, -⟩
    · have hk : k = k' := congrArg (fun r : (Int × Int) × Nat => r.2) (a1.symm.trans b1)
      subst hk
      exact Or.inl ⟨k, ⟨a2, b2⟩, ⟨a3, a4⟩, ⟨b4, b5⟩, ⟨a6, a7⟩, b3⟩
    · exact (s_rls_ob b0 (a1.symm.trans b1)).elim
  · rcases k2 with ⟨k', b1, -⟩ | ⟨p', x', b0, b1, b2, b3, b4, b5⟩
    · exact (s_rls_ob a0 (b1.symm.trans a1)).elim
    · have h := a1.symm.trans b1
      have h1 : s_fk (gi 2) n p x = s_fk (gi 2) n p' x' := congrArg (fun r : (Int × Int) × Nat => r.1.1) h
      have h2 : ((s_F (gi 2) n p : Nat) : Int) = ((s_F (gi 2) n p' : Nat) : Int) := congrArg (fun r : (Int × Int) × Nat => r.1.2) h
      exact Or.inr ⟨⟨a2, b2⟩, ⟨by rw [a3, b3, h1], by rw [a4, b4, h2]⟩, a6, b5⟩
theorem t_L_rules (hT : t_TP gi) (hR : t_R gi gr) (f1 : t_F w1 gi gl gr g1 l1 r1) (h75 : t_nc w1 75 = true) (h69 : t_in w1 69 10 = false) (q1 : ((0 ≤ A.toInt ∧ A.toInt ≤ (gi 0 5).toInt ∧ A.toInt ≤ 300) → ∀ n : Nat, (n : Int) = A.toInt → t_RSR gi gl gr N (gi 2) n x1 g1 l1 r1) ∧ (¬ (0 ≤ A.toInt ∧ A.toInt ≤ (gi 0 5).toInt ∧ A.toInt ≤ 300) → x1.toInt = -1 ∧ (∀ K, K ≠ 0 → g1 K = gi K ∧ l1 K = gl K ∧ r1 K = gr K) ∧ r1 0 6 = gr 0 6 ∧ r1 0 7 = gr 0 7)) (q2 : Q_n_rules g1 l1 r1 A x2 g2 l2 r2) : x1 = x2 := by
  have e0 : (gi 0 5).toInt = (gi 69 10).toInt := congrArg Int32.toInt (t_R_fed hR)
  have e1 : (g1 69 10).toInt = (gi 69 10).toInt := congrArg Int32.toInt (f1 69 10 (by decide) h69).1
  apply Int32.toInt_inj.mp
  by_cases hin : 0 ≤ A.toInt ∧ A.toInt ≤ (gi 0 5).toInt ∧ A.toInt ≤ 300
  · rcases t_RU_two hT hR f1 h75 h69 hin q1.1 q2 with ⟨k, h, -⟩ | ⟨h, -⟩
    · rw [h.1, h.2]
    · rw [h.1, h.2]
  · rw [(q1.2 hin).1, (q2.2 (by omega)).1]
end LRU
