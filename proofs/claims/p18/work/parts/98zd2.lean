/-! ===== printed by riv.py: SHIPS and CARTS told ===== -/
noncomputable def wl_d_ship : List (Nat × Nat) := [(0, 0)]
noncomputable def Q_d_ship (gi : Nat → Nat → Int32) (gl : Nat → Nat → Int64) (gr : Nat → Nat → Value) (ar1 : Int32) (ar2 : Int32) : Int32 → (Nat → Nat → Int32) → (Nat → Nat → Int64) → (Nat → Nat → Value) → Prop := fun (v : Int32) (gi2 : Nat → Nat → Int32) (gl2 : Nat → Nat → Int64) (gr2 : Nat → Nat → Value) => ∀ (u : Nat) (D : s_D), gr 0 6 = .ref u → t_VL gr u → t_CV gi gl u D → t_Cb D → (∀ s : Nat, (s : Int) < D 1 → 0 ≤ D (56 + 5 * s) ∧ D (56 + 5 * s) ≤ 1) → ((0 ≤ ar1.toInt ∧ ar1.toInt < D 1 ∧ 0 ≤ ar2.toInt ∧ ar2.toInt ≤ 4) → v.toInt = D (52 + 5 * ar1.toNatClampNeg + ar2.toNatClampNeg)) ∧ (¬ (0 ≤ ar1.toInt ∧ ar1.toInt < D 1 ∧ 0 ≤ ar2.toInt ∧ ar2.toInt ≤ 4) → v.toInt = -1)
theorem c_d_ship {X : x_Ext} {d : Nat} {sh : List (Nat ⊕ (Nat × Nat))} {gi : Nat → Nat → Int32} {gl : Nat → Nat → Int64} {gr : Nat → Nat → Value} (hI : t_I sh gi gr) (ar1 : Int32) (ar2 : Int32) : x_Me X (d + 2) n_X11_ship [.ref 0, .int ar1, .int ar2] (sh, gi, gl, gr) (t_PI wl_d_ship sh gi gl gr (-2147483648) 2147483647 (Q_d_ship gi gl gr ar1 ar2)) := by
  have hX : t_X wl_d_ship sh gi gl gr gi gl gr := t_X.rf
  refine me_i f_X11_ship (hI.wf.s rfl) rfl rfl rfl ?_
  refine ev_loc f_X11_ship (nx := 1) rfl rfl rfl rfl ?_
  refine ev_loc f_X11_ship (nx := 2) rfl rfl rfl rfl ?_
  refine ev_inV2 f_X11_ship (nx := 5) (lo2 := [(0, .ref 0), (1, .int ar1)]) rfl rfl rfl rfl f_X11_isShip (hI.wf.s rfl) rfl rfl rfl rfl rfl ?_
  refine ev_loc f_X11_isShip (nx := 1) rfl rfl rfl rfl ?_
  refine ev_if f_X11_isShip (t1 := 22) (t2 := 4) rfl rfl rfl (fun h1 => ?_) (fun h1 => ?_)
  · have u2 : ar1.toInt ≤ (-1) := t_ltu h1 (by decide : (0:Int32).toInt ≤ (0:Int)) rfl
    refine ev_ic f_X11_isShip (nx := 23) (v := 0) rfl (by decide) rfl ?_
    refine ev_retK1 f_X11_isShip rfl rfl rfl ?_
    refine ev_t f_X11_ship (t1 := 8) (t2 := 14) rfl rfl rfl (by decide) ?_
    refine ev_loc f_X11_ship (nx := 9) rfl rfl rfl rfl ?_
    refine ev_ic f_X11_ship (nx := 10) (v := 1) rfl (by decide) rfl ?_
    refine ev_inV2 f_X11_ship (nx := 13) (lo2 := [(0, .ref 0), (1, .int 1)]) rfl rfl rfl rfl f_X11_refuse (hI.wf.s rfl) rfl rfl rfl rfl rfl ?_
    refine ev_loc f_X11_refuse (nx := 1) rfl rfl rfl rfl ?_
    refine ev_loc f_X11_refuse (nx := 2) rfl rfl rfl rfl ?_
    refine ev_putIT f_X11_refuse (nx := 5) rfl (hI.wf.s rfl) rfl rfl rfl (hI.put0 (hI.wf.s rfl) rfl rfl) (hX.upI rfl) (fun g3 e3 hI hX => ?_)
    refine ev_ic f_X11_refuse (nx := 6) (v := -1) rfl (by decide) rfl ?_
    refine ev_retK1 f_X11_refuse rfl rfl rfl ?_
    exact ev_ret f_X11_ship rfl rfl rfl ⟨_, _, _, rfl, hI, hX, ⟨_, rfl, (Int.le_trans (by decide : ((-2147483648):Int) ≤ (-1)) (by decide : ((-1):Int) ≤ ((-1):Int32).toInt)), (Int.le_trans (by decide : ((-1):Int32).toInt ≤ ((-1):Int)) (by decide : ((-1):Int) ≤ 2147483647)), (show ∀ (u : Nat) (D : s_D), gr 0 6 = .ref u → t_VL gr u → t_CV gi gl u D → t_Cb D → (∀ s : Nat, (s : Int) < D 1 → 0 ≤ D (56 + 5 * s) ∧ D (56 + 5 * s) ≤ 1) → ((0 ≤ ar1.toInt ∧ ar1.toInt < D 1 ∧ 0 ≤ ar2.toInt ∧ ar2.toInt ≤ 4) → ((-1) : Int) = D (52 + 5 * ar1.toNatClampNeg + ar2.toNatClampNeg)) ∧ (¬ (0 ≤ ar1.toInt ∧ ar1.toInt < D 1 ∧ 0 ≤ ar2.toInt ∧ ar2.toInt ≤ 4) → ((-1) : Int) = -1) from (by
                                                            intro u D hu hl hc hb h1
                                                            have hm := hc.2.2.1.1
                                                            exact ⟨fun h => absurd h (by omega), fun _ => rfl⟩))⟩⟩
  · have l4 : 0 ≤ ar1.toInt := t_lel (t_nlt h1) (by decide : (0:Int) ≤ (0:Int32).toInt)
    refine ev_loc f_X11_isShip (nx := 5) rfl rfl rfl rfl ?_
    refine ev_loc f_X11_isShip (nx := 6) rfl rfl rfl rfl ?_
    obtain ⟨a5, e5, p5⟩ := hI.2.2.2.1.1
    refine ev_getR f_X11_isShip (nx := 9) rfl (hI.wf.s rfl) rfl rfl e5 rfl rfl ?_
    obtain ⟨a6, e6, p6⟩ := p5.2.2.2.2.1
    refine ev_getR f_X11_isShip (nx := 12) rfl p5.1 rfl rfl e6 rfl rfl ?_
    refine ev_getI f_X11_isShip (nx := 15) rfl p6.1 rfl rfl rfl ?_
    obtain ⟨l7, u7⟩ := hI.b p6.1 (t_bdK rfl : t_bd 3 0 = some (0, 6))
    refine ev_if f_X11_isShip (t1 := 22) (t2 := 18) rfl rfl rfl (fun h8 => ?_) (fun h8 => ?_)
    · have r9 : (gi a6 0).toInt ≤ ar1.toInt := Int32.le_iff_toInt_le.mp h8
      refine ev_ic f_X11_isShip (nx := 23) (v := 0) rfl (by decide) rfl ?_
      refine ev_retK1 f_X11_isShip rfl rfl rfl ?_
      refine ev_t f_X11_ship (t1 := 8) (t2 := 14) rfl rfl rfl (by decide) ?_
      refine ev_loc f_X11_ship (nx := 9) rfl rfl rfl rfl ?_
      refine ev_ic f_X11_ship (nx := 10) (v := 1) rfl (by decide) rfl ?_
      refine ev_inV2 f_X11_ship (nx := 13) (lo2 := [(0, .ref 0), (1, .int 1)]) rfl rfl rfl rfl f_X11_refuse (hI.wf.s rfl) rfl rfl rfl rfl rfl ?_
      refine ev_loc f_X11_refuse (nx := 1) rfl rfl rfl rfl ?_
      refine ev_loc f_X11_refuse (nx := 2) rfl rfl rfl rfl ?_
      refine ev_putIT f_X11_refuse (nx := 5) rfl (hI.wf.s rfl) rfl rfl rfl (hI.put0 (hI.wf.s rfl) rfl rfl) (hX.upI rfl) (fun g10 e10 hI hX => ?_)
      refine ev_ic f_X11_refuse (nx := 6) (v := -1) rfl (by decide) rfl ?_
      refine ev_retK1 f_X11_refuse rfl rfl rfl ?_
      exact ev_ret f_X11_ship rfl rfl rfl ⟨_, _, _, rfl, hI, hX, ⟨_, rfl, (Int.le_trans (by decide : ((-2147483648):Int) ≤ (-1)) (by decide : ((-1):Int) ≤ ((-1):Int32).toInt)), (Int.le_trans (by decide : ((-1):Int32).toInt ≤ ((-1):Int)) (by decide : ((-1):Int) ≤ 2147483647)), (show ∀ (u : Nat) (D : s_D), gr 0 6 = .ref u → t_VL gr u → t_CV gi gl u D → t_Cb D → (∀ s : Nat, (s : Int) < D 1 → 0 ≤ D (56 + 5 * s) ∧ D (56 + 5 * s) ≤ 1) → ((0 ≤ ar1.toInt ∧ ar1.toInt < D 1 ∧ 0 ≤ ar2.toInt ∧ ar2.toInt ≤ 4) → ((-1) : Int) = D (52 + 5 * ar1.toNatClampNeg + ar2.toNatClampNeg)) ∧ (¬ (0 ≤ ar1.toInt ∧ ar1.toInt < D 1 ∧ 0 ≤ ar2.toInt ∧ ar2.toInt ≤ 4) → ((-1) : Int) = -1) from (by
                                                            intro u D hu hl hc hb h1
                                                            have ha : a5 = u := Value.ref.inj (e5.symm.trans hu)
                                                            subst ha
                                                            have hb1 : (a5 + 3) = a6 := Value.ref.inj ((hl.1.2.2.2.1).symm.trans e6)
                                                            subst hb1
                                                            have hm := hc.2.2.1.1
                                                            exact ⟨fun h => absurd h (by omega), fun _ => rfl⟩))⟩⟩
    · have r11 : ar1.toInt < (gi a6 0).toInt := Int32.lt_iff_toInt_lt.mp (t_nle h8)
      have u12 : ar1.toInt ≤ 5 := t_ltu (t_nle h8) u7 rfl
      have l13 : 1 ≤ (gi a6 0).toInt := t_ltl (t_nle h8) l4 rfl
      refine ev_ic f_X11_isShip (nx := 19) (v := 1) rfl (by decide) rfl ?_
      refine ev_jmp f_X11_isShip (nx := 23) rfl rfl rfl ?_
      refine ev_retK1 f_X11_isShip rfl rfl rfl ?_
      refine ev_f f_X11_ship (t1 := 8) (t2 := 14) rfl rfl rfl (by decide) ?_
      refine ev_loc f_X11_ship (nx := 15) rfl rfl rfl rfl ?_
      have h14 : ar2.toInt = 0 ∨ ar2.toInt = 1 ∨ ar2.toInt = 2 ∨ ar2.toInt = 3 ∨ ar2.toInt = 4 ∨ (ar2.toInt ≠ 0 ∧ ar2.toInt ≠ 1 ∧ ar2.toInt ≠ 2 ∧ ar2.toInt ≠ 3 ∧ ar2.toInt ≠ 4) := by have := (t_lo ar2); have := (t_hi ar2); omega
      rcases h14 with h14 | h14 | h14 | h14 | h14 | h14
      · refine ev_swt f_X11_ship (nx := 48) (c := 0) rfl h14 rfl ?_
        refine ev_loc f_X11_ship (nx := 49) rfl rfl rfl rfl ?_
        refine ev_loc f_X11_ship (nx := 50) rfl rfl rfl rfl ?_
        refine ev_getR f_X11_ship (nx := 53) (v := .ref a5) rfl (hI.wf.s rfl) rfl rfl e5 rfl rfl ?_
        obtain ⟨a15, e15, s15, o15⟩ := p5.2.2.2.1
        refine ev_getR f_X11_ship (nx := 56) rfl p5.1 rfl rfl e15 rfl rfl ?_
        refine ev_loc f_X11_ship (nx := 57) rfl rfl rfl rfl ?_
        refine ev_ialdT f_X11_ship (nx := 58) rfl s15 l4 (by decide) u12 (by decide) rfl (fun w16 e16 => ?_)
        refine ev_inV2 f_X11_ship (nx := 61) (lo2 := [(0, .ref 0), (1, .int w16)]) rfl rfl rfl rfl f_X11_answer (hI.wf.s rfl) rfl rfl rfl rfl rfl ?_
        refine ev_loc f_X11_answer (nx := 1) rfl rfl rfl rfl ?_
        refine ev_ic f_X11_answer (nx := 2) (v := 0) rfl (by decide) rfl ?_
        refine ev_putIT f_X11_answer (nx := 5) rfl (hI.wf.s rfl) rfl rfl rfl (hI.put0 (hI.wf.s rfl) rfl rfl) (hX.upI rfl) (fun g17 e17 hI hX => ?_)
        refine ev_loc f_X11_answer (nx := 6) rfl rfl rfl rfl ?_
        refine ev_retK1 f_X11_answer rfl rfl rfl ?_
        exact ev_ret f_X11_ship rfl rfl rfl ⟨_, _, _, rfl, hI, hX, ⟨_, rfl, (t_lo w16), (t_hi w16), (show ∀ (u : Nat) (D : s_D), gr 0 6 = .ref u → t_VL gr u → t_CV gi gl u D → t_Cb D → (∀ s : Nat, (s : Int) < D 1 → 0 ≤ D (56 + 5 * s) ∧ D (56 + 5 * s) ≤ 1) → ((0 ≤ ar1.toInt ∧ ar1.toInt < D 1 ∧ 0 ≤ ar2.toInt ∧ ar2.toInt ≤ 4) → w16.toInt = D (52 + 5 * ar1.toNatClampNeg + ar2.toNatClampNeg)) ∧ (¬ (0 ≤ ar1.toInt ∧ ar1.toInt < D 1 ∧ 0 ≤ ar2.toInt ∧ ar2.toInt ≤ 4) → w16.toInt = -1) from (by
                                                            intro u D hu hl hc hb h1
                                                            have ha : a5 = u := Value.ref.inj (e5.symm.trans hu)
                                                            subst ha
                                                            have hb1 : (a5 + 3) = a6 := Value.ref.inj ((hl.1.2.2.2.1).symm.trans e6)
                                                            subst hb1
                                                            have hb2 : (a5 + 9) = a15 := Value.ref.inj ((hl.1.2.2.1).symm.trans e15)
                                                            subst hb2
                                                            have hm := hc.2.2.1.1
                                                            have ka := t_clamp (i := ar1) (by omega)
                                                            have kb := t_clamp (i := ar2) (by omega)
                                                            have hs := hc.2.2.1.2 ar1.toNatClampNeg (by omega)
                                                            refine ⟨fun _ => ?_, fun h => absurd (show _ from ⟨by omega, by omega, by omega, by omega⟩) h⟩
                                                            rw [show 52 + 5 * ar1.toNatClampNeg + ar2.toNatClampNeg = 52 + 5 * ar1.toNatClampNeg by omega]
                                                            rw [e16]; exact hs.1))⟩⟩
      · refine ev_swt f_X11_ship (nx := 62) (c := 1) rfl h14 rfl ?_
        refine ev_loc f_X11_ship (nx := 63) rfl rfl rfl rfl ?_
        refine ev_loc f_X11_ship (nx := 64) rfl rfl rfl rfl ?_
        refine ev_getR f_X11_ship (nx := 67) (v := .ref a5) rfl (hI.wf.s rfl) rfl rfl e5 rfl rfl ?_
        refine ev_getR f_X11_ship (nx := 70) (v := .ref a6) rfl p5.1 rfl rfl e6 rfl rfl ?_
        obtain ⟨a18, e18, s18, o18⟩ := p6.2.2.1
        refine ev_getR f_X11_ship (nx := 73) rfl p6.1 rfl rfl e18 rfl rfl ?_
        refine ev_loc f_X11_ship (nx := 74) rfl rfl rfl rfl ?_
        refine ev_ialdT f_X11_ship (nx := 75) rfl s18 l4 (by decide) u12 (by decide) rfl (fun w19 e19 => ?_)
        refine ev_inV2 f_X11_ship (nx := 78) (lo2 := [(0, .ref 0), (1, .int w19)]) rfl rfl rfl rfl f_X11_answer (hI.wf.s rfl) rfl rfl rfl rfl rfl ?_
        refine ev_loc f_X11_answer (nx := 1) rfl rfl rfl rfl ?_
        refine ev_ic f_X11_answer (nx := 2) (v := 0) rfl (by decide) rfl ?_
        refine ev_putIT f_X11_answer (nx := 5) rfl (hI.wf.s rfl) rfl rfl rfl (hI.put0 (hI.wf.s rfl) rfl rfl) (hX.upI rfl) (fun g20 e20 hI hX => ?_)
        refine ev_loc f_X11_answer (nx := 6) rfl rfl rfl rfl ?_
        refine ev_retK1 f_X11_answer rfl rfl rfl ?_
        exact ev_ret f_X11_ship rfl rfl rfl ⟨_, _, _, rfl, hI, hX, ⟨_, rfl, (t_lo w19), (t_hi w19), (show ∀ (u : Nat) (D : s_D), gr 0 6 = .ref u → t_VL gr u → t_CV gi gl u D → t_Cb D → (∀ s : Nat, (s : Int) < D 1 → 0 ≤ D (56 + 5 * s) ∧ D (56 + 5 * s) ≤ 1) → ((0 ≤ ar1.toInt ∧ ar1.toInt < D 1 ∧ 0 ≤ ar2.toInt ∧ ar2.toInt ≤ 4) → w19.toInt = D (52 + 5 * ar1.toNatClampNeg + ar2.toNatClampNeg)) ∧ (¬ (0 ≤ ar1.toInt ∧ ar1.toInt < D 1 ∧ 0 ≤ ar2.toInt ∧ ar2.toInt ≤ 4) → w19.toInt = -1) from (by
                                                            intro u D hu hl hc hb h1
                                                            have ha : a5 = u := Value.ref.inj (e5.symm.trans hu)
                                                            subst ha
                                                            have hb1 : (a5 + 3) = a6 := Value.ref.inj ((hl.1.2.2.2.1).symm.trans e6)
                                                            subst hb1
                                                            have hb2 : (a5 + 3 + 2) = a18 := Value.ref.inj ((hl.2.1.2.1).symm.trans e18)
                                                            subst hb2
                                                            have hm := hc.2.2.1.1
                                                            have ka := t_clamp (i := ar1) (by omega)
                                                            have kb := t_clamp (i := ar2) (by omega)
                                                            have hs := hc.2.2.1.2 ar1.toNatClampNeg (by omega)
                                                            refine ⟨fun _ => ?_, fun h => absurd (show _ from ⟨by omega, by omega, by omega, by omega⟩) h⟩
                                                            rw [show 52 + 5 * ar1.toNatClampNeg + ar2.toNatClampNeg = 53 + 5 * ar1.toNatClampNeg by omega]
                                                            rw [e19]; exact hs.2.1))⟩⟩
      · refine ev_swt f_X11_ship (nx := 79) (c := 2) rfl h14 rfl ?_
        refine ev_loc f_X11_ship (nx := 80) rfl rfl rfl rfl ?_
        refine ev_loc f_X11_ship (nx := 81) rfl rfl rfl rfl ?_
        refine ev_getR f_X11_ship (nx := 84) (v := .ref a5) rfl (hI.wf.s rfl) rfl rfl e5 rfl rfl ?_
        refine ev_getR f_X11_ship (nx := 87) (v := .ref a6) rfl p5.1 rfl rfl e6 rfl rfl ?_
        obtain ⟨a21, e21, s21, o21⟩ := p6.2.2.2.1
        refine ev_getR f_X11_ship (nx := 90) rfl p6.1 rfl rfl e21 rfl rfl ?_
        refine ev_loc f_X11_ship (nx := 91) rfl rfl rfl rfl ?_
        refine ev_ialdT f_X11_ship (nx := 92) rfl s21 l4 (by decide) u12 (by decide) rfl (fun w22 e22 => ?_)
        refine ev_inV2 f_X11_ship (nx := 95) (lo2 := [(0, .ref 0), (1, .int w22)]) rfl rfl rfl rfl f_X11_answer (hI.wf.s rfl) rfl rfl rfl rfl rfl ?_
        refine ev_loc f_X11_answer (nx := 1) rfl rfl rfl rfl ?_
        refine ev_ic f_X11_answer (nx := 2) (v := 0) rfl (by decide) rfl ?_
        refine ev_putIT f_X11_answer (nx := 5) rfl (hI.wf.s rfl) rfl rfl rfl (hI.put0 (hI.wf.s rfl) rfl rfl) (hX.upI rfl) (fun g23 e23 hI hX => ?_)
        refine ev_loc f_X11_answer (nx := 6) rfl rfl rfl rfl ?_
        refine ev_retK1 f_X11_answer rfl rfl rfl ?_
        exact ev_ret f_X11_ship rfl rfl rfl ⟨_, _, _, rfl, hI, hX, ⟨_, rfl, (t_lo w22), (t_hi w22), (show ∀ (u : Nat) (D : s_D), gr 0 6 = .ref u → t_VL gr u → t_CV gi gl u D → t_Cb D → (∀ s : Nat, (s : Int) < D 1 → 0 ≤ D (56 + 5 * s) ∧ D (56 + 5 * s) ≤ 1) → ((0 ≤ ar1.toInt ∧ ar1.toInt < D 1 ∧ 0 ≤ ar2.toInt ∧ ar2.toInt ≤ 4) → w22.toInt = D (52 + 5 * ar1.toNatClampNeg + ar2.toNatClampNeg)) ∧ (¬ (0 ≤ ar1.toInt ∧ ar1.toInt < D 1 ∧ 0 ≤ ar2.toInt ∧ ar2.toInt ≤ 4) → w22.toInt = -1) from (by
                                                            intro u D hu hl hc hb h1
                                                            have ha : a5 = u := Value.ref.inj (e5.symm.trans hu)
                                                            subst ha
                                                            have hb1 : (a5 + 3) = a6 := Value.ref.inj ((hl.1.2.2.2.1).symm.trans e6)
                                                            subst hb1
                                                            have hb2 : (a5 + 3 + 3) = a21 := Value.ref.inj ((hl.2.1.2.2.1).symm.trans e21)
                                                            subst hb2
                                                            have hm := hc.2.2.1.1
                                                            have ka := t_clamp (i := ar1) (by omega)
                                                            have kb := t_clamp (i := ar2) (by omega)
                                                            have hs := hc.2.2.1.2 ar1.toNatClampNeg (by omega)
                                                            refine ⟨fun _ => ?_, fun h => absurd (show _ from ⟨by omega, by omega, by omega, by omega⟩) h⟩
                                                            rw [show 52 + 5 * ar1.toNatClampNeg + ar2.toNatClampNeg = 54 + 5 * ar1.toNatClampNeg by omega]
                                                            rw [e22]; exact hs.2.2.1))⟩⟩
      · refine ev_swt f_X11_ship (nx := 96) (c := 3) rfl h14 rfl ?_
        refine ev_loc f_X11_ship (nx := 97) rfl rfl rfl rfl ?_
        refine ev_loc f_X11_ship (nx := 98) rfl rfl rfl rfl ?_
        refine ev_getR f_X11_ship (nx := 101) (v := .ref a5) rfl (hI.wf.s rfl) rfl rfl e5 rfl rfl ?_
        refine ev_getR f_X11_ship (nx := 104) (v := .ref a6) rfl p5.1 rfl rfl e6 rfl rfl ?_
        obtain ⟨a24, e24, s24, o24⟩ := p6.2.2.2.2.1
        refine ev_getR f_X11_ship (nx := 107) rfl p6.1 rfl rfl e24 rfl rfl ?_
        refine ev_loc f_X11_ship (nx := 108) rfl rfl rfl rfl ?_
        refine ev_ialdT f_X11_ship (nx := 109) rfl s24 l4 (by decide) u12 (by decide) rfl (fun w25 e25 => ?_)
        refine ev_inV2 f_X11_ship (nx := 112) (lo2 := [(0, .ref 0), (1, .int w25)]) rfl rfl rfl rfl f_X11_answer (hI.wf.s rfl) rfl rfl rfl rfl rfl ?_
        refine ev_loc f_X11_answer (nx := 1) rfl rfl rfl rfl ?_
        refine ev_ic f_X11_answer (nx := 2) (v := 0) rfl (by decide) rfl ?_
        refine ev_putIT f_X11_answer (nx := 5) rfl (hI.wf.s rfl) rfl rfl rfl (hI.put0 (hI.wf.s rfl) rfl rfl) (hX.upI rfl) (fun g26 e26 hI hX => ?_)
        refine ev_loc f_X11_answer (nx := 6) rfl rfl rfl rfl ?_
        refine ev_retK1 f_X11_answer rfl rfl rfl ?_
        exact ev_ret f_X11_ship rfl rfl rfl ⟨_, _, _, rfl, hI, hX, ⟨_, rfl, (t_lo w25), (t_hi w25), (show ∀ (u : Nat) (D : s_D), gr 0 6 = .ref u → t_VL gr u → t_CV gi gl u D → t_Cb D → (∀ s : Nat, (s : Int) < D 1 → 0 ≤ D (56 + 5 * s) ∧ D (56 + 5 * s) ≤ 1) → ((0 ≤ ar1.toInt ∧ ar1.toInt < D 1 ∧ 0 ≤ ar2.toInt ∧ ar2.toInt ≤ 4) → w25.toInt = D (52 + 5 * ar1.toNatClampNeg + ar2.toNatClampNeg)) ∧ (¬ (0 ≤ ar1.toInt ∧ ar1.toInt < D 1 ∧ 0 ≤ ar2.toInt ∧ ar2.toInt ≤ 4) → w25.toInt = -1) from (by
                                                            intro u D hu hl hc hb h1
                                                            have ha : a5 = u := Value.ref.inj (e5.symm.trans hu)
                                                            subst ha
                                                            have hb1 : (a5 + 3) = a6 := Value.ref.inj ((hl.1.2.2.2.1).symm.trans e6)
                                                            subst hb1
                                                            have hb2 : (a5 + 3 + 4) = a24 := Value.ref.inj ((hl.2.1.2.2.2.1).symm.trans e24)
                                                            subst hb2
                                                            have hm := hc.2.2.1.1
                                                            have ka := t_clamp (i := ar1) (by omega)
                                                            have kb := t_clamp (i := ar2) (by omega)
                                                            have hs := hc.2.2.1.2 ar1.toNatClampNeg (by omega)
                                                            refine ⟨fun _ => ?_, fun h => absurd (show _ from ⟨by omega, by omega, by omega, by omega⟩) h⟩
                                                            rw [show 52 + 5 * ar1.toNatClampNeg + ar2.toNatClampNeg = 55 + 5 * ar1.toNatClampNeg by omega]
                                                            rw [e25]; exact hs.2.2.2.1))⟩⟩
      · refine ev_swt f_X11_ship (nx := 113) (c := 4) rfl h14 rfl ?_
        refine ev_loc f_X11_ship (nx := 114) rfl rfl rfl rfl ?_
        refine ev_loc f_X11_ship (nx := 115) rfl rfl rfl rfl ?_
        refine ev_getR f_X11_ship (nx := 118) (v := .ref a5) rfl (hI.wf.s rfl) rfl rfl e5 rfl rfl ?_
        refine ev_getR f_X11_ship (nx := 121) (v := .ref a6) rfl p5.1 rfl rfl e6 rfl rfl ?_
        obtain ⟨a27, e27, s27, o27⟩ := p6.2.2.2.2.2
        refine ev_getR f_X11_ship (nx := 124) rfl p6.1 rfl rfl e27 rfl rfl ?_
        refine ev_loc f_X11_ship (nx := 125) rfl rfl rfl rfl ?_
        refine ev_baldT f_X11_ship (nx := 126) rfl s27 rfl l4 (by decide) u12 (by decide) rfl (fun w28 e28 => ?_)
        refine ev_if f_X11_ship (t1 := 133) (t2 := 129) rfl rfl rfl (fun h29 => ?_) (fun h29 => ?_)
        · have u30 : w28.toInt ≤ 0 := t_equ h29 (by decide : (0:Int32).toInt ≤ (0:Int))
          have l31 : 0 ≤ w28.toInt := t_eql h29 (by decide : (0:Int) ≤ (0:Int32).toInt)
          refine ev_ic f_X11_ship (nx := 134) (v := 0) rfl (by decide) rfl ?_
          refine ev_inV2 f_X11_ship (nx := 137) (lo2 := [(0, .ref 0), (1, .int 0)]) rfl rfl rfl rfl f_X11_answer (hI.wf.s rfl) rfl rfl rfl rfl rfl ?_
          refine ev_loc f_X11_answer (nx := 1) rfl rfl rfl rfl ?_
          refine ev_ic f_X11_answer (nx := 2) (v := 0) rfl (by decide) rfl ?_
          refine ev_putIT f_X11_answer (nx := 5) rfl (hI.wf.s rfl) rfl rfl rfl (hI.put0 (hI.wf.s rfl) rfl rfl) (hX.upI rfl) (fun g32 e32 hI hX => ?_)
          refine ev_loc f_X11_answer (nx := 6) rfl rfl rfl rfl ?_
          refine ev_retK1 f_X11_answer rfl rfl rfl ?_
          exact ev_ret f_X11_ship rfl rfl rfl ⟨_, _, _, rfl, hI, hX, ⟨_, rfl, (Int.le_trans (by decide : ((-2147483648):Int) ≤ 0) (by decide : (0:Int) ≤ (0:Int32).toInt)), (Int.le_trans (by decide : (0:Int32).toInt ≤ (0:Int)) (by decide : (0:Int) ≤ 2147483647)), (show ∀ (u : Nat) (D : s_D), gr 0 6 = .ref u → t_VL gr u → t_CV gi gl u D → t_Cb D → (∀ s : Nat, (s : Int) < D 1 → 0 ≤ D (56 + 5 * s) ∧ D (56 + 5 * s) ≤ 1) → ((0 ≤ ar1.toInt ∧ ar1.toInt < D 1 ∧ 0 ≤ ar2.toInt ∧ ar2.toInt ≤ 4) → (0 : Int) = D (52 + 5 * ar1.toNatClampNeg + ar2.toNatClampNeg)) ∧ (¬ (0 ≤ ar1.toInt ∧ ar1.toInt < D 1 ∧ 0 ≤ ar2.toInt ∧ ar2.toInt ≤ 4) → (0 : Int) = -1) from (by
                                                            intro u D hu hl hc hb h1
                                                            have ha : a5 = u := Value.ref.inj (e5.symm.trans hu)
                                                            subst ha
                                                            have hb1 : (a5 + 3) = a6 := Value.ref.inj ((hl.1.2.2.2.1).symm.trans e6)
                                                            subst hb1
                                                            have hb2 : (a5 + 3 + 5) = a27 := Value.ref.inj ((hl.2.1.2.2.2.2).symm.trans e27)
                                                            subst hb2
                                                            have hm := hc.2.2.1.1
                                                            have ka := t_clamp (i := ar1) (by omega)
                                                            have kb := t_clamp (i := ar2) (by omega)
                                                            have hs := hc.2.2.1.2 ar1.toNatClampNeg (by omega)
                                                            refine ⟨fun _ => ?_, fun h => absurd (show _ from ⟨by omega, by omega, by omega, by omega⟩) h⟩
                                                            rw [show 52 + 5 * ar1.toNatClampNeg + ar2.toNatClampNeg = 56 + 5 * ar1.toNatClampNeg by omega]
                                                            have hw : w28.toInt = D (56 + 5 * ar1.toNatClampNeg) := by rw [e28]; exact hs.2.2.2.2
                                                            have h2 := h1 ar1.toNatClampNeg (by omega)
                                                            rw [← hw] at h2 ⊢
                                                            have k1 : (1 : Int32).toInt = 1 := rfl
                                                            have k0 : (0 : Int32).toInt = 0 := rfl
                                                            omega))⟩⟩
        · have r33 : w28.toInt ≠ 0 := fun e => h29 (Int32.toInt_inj.mp (e.trans (by decide : (0:Int) = (0 : Int32).toInt)))
          refine ev_ic f_X11_ship (nx := 130) (v := 1) rfl (by decide) rfl ?_
          refine ev_jmp f_X11_ship (nx := 134) rfl rfl rfl ?_
          refine ev_inV2 f_X11_ship (nx := 137) (lo2 := [(0, .ref 0), (1, .int 1)]) rfl rfl rfl rfl f_X11_answer (hI.wf.s rfl) rfl rfl rfl rfl rfl ?_
          refine ev_loc f_X11_answer (nx := 1) rfl rfl rfl rfl ?_
          refine ev_ic f_X11_answer (nx := 2) (v := 0) rfl (by decide) rfl ?_
          refine ev_putIT f_X11_answer (nx := 5) rfl (hI.wf.s rfl) rfl rfl rfl (hI.put0 (hI.wf.s rfl) rfl rfl) (hX.upI rfl) (fun g34 e34 hI hX => ?_)
          refine ev_loc f_X11_answer (nx := 6) rfl rfl rfl rfl ?_
          refine ev_retK1 f_X11_answer rfl rfl rfl ?_
          exact ev_ret f_X11_ship rfl rfl rfl ⟨_, _, _, rfl, hI, hX, ⟨_, rfl, (Int.le_trans (by decide : ((-2147483648):Int) ≤ 1) (by decide : (1:Int) ≤ (1:Int32).toInt)), (Int.le_trans (by decide : (1:Int32).toInt ≤ (1:Int)) (by decide : (1:Int) ≤ 2147483647)), (show ∀ (u : Nat) (D : s_D), gr 0 6 = .ref u → t_VL gr u → t_CV gi gl u D → t_Cb D → (∀ s : Nat, (s : Int) < D 1 → 0 ≤ D (56 + 5 * s) ∧ D (56 + 5 * s) ≤ 1) → ((0 ≤ ar1.toInt ∧ ar1.toInt < D 1 ∧ 0 ≤ ar2.toInt ∧ ar2.toInt ≤ 4) → (1 : Int) = D (52 + 5 * ar1.toNatClampNeg + ar2.toNatClampNeg)) ∧ (¬ (0 ≤ ar1.toInt ∧ ar1.toInt < D 1 ∧ 0 ≤ ar2.toInt ∧ ar2.toInt ≤ 4) → (1 : Int) = -1) from (by
                                                            intro u D hu hl hc hb h1
                                                            have ha : a5 = u := Value.ref.inj (e5.symm.trans hu)
                                                            subst ha
                                                            have hb1 : (a5 + 3) = a6 := Value.ref.inj ((hl.1.2.2.2.1).symm.trans e6)
                                                            subst hb1
                                                            have hb2 : (a5 + 3 + 5) = a27 := Value.ref.inj ((hl.2.1.2.2.2.2).symm.trans e27)
                                                            subst hb2
                                                            have hm := hc.2.2.1.1
                                                            have ka := t_clamp (i := ar1) (by omega)
                                                            have kb := t_clamp (i := ar2) (by omega)
                                                            have hs := hc.2.2.1.2 ar1.toNatClampNeg (by omega)
                                                            refine ⟨fun _ => ?_, fun h => absurd (show _ from ⟨by omega, by omega, by omega, by omega⟩) h⟩
                                                            rw [show 52 + 5 * ar1.toNatClampNeg + ar2.toNatClampNeg = 56 + 5 * ar1.toNatClampNeg by omega]
                                                            have hw : w28.toInt = D (56 + 5 * ar1.toNatClampNeg) := by rw [e28]; exact hs.2.2.2.2
                                                            have h2 := h1 ar1.toNatClampNeg (by omega)
                                                            rw [← hw] at h2 ⊢
                                                            have k1 : (1 : Int32).toInt = 1 := rfl
                                                            have k0 : (0 : Int32).toInt = 0 := rfl
                                                            omega))⟩⟩
      · refine ev_swtd f_X11_ship (nx := 138) rfl (by omega) (by decide) rfl ?_
        refine ev_loc f_X11_ship (nx := 139) rfl rfl rfl rfl ?_
        refine ev_ic f_X11_ship (nx := 140) (v := 1) rfl (by decide) rfl ?_
        refine ev_inV2 f_X11_ship (nx := 143) (lo2 := [(0, .ref 0), (1, .int 1)]) rfl rfl rfl rfl f_X11_refuse (hI.wf.s rfl) rfl rfl rfl rfl rfl ?_
        refine ev_loc f_X11_refuse (nx := 1) rfl rfl rfl rfl ?_
        refine ev_loc f_X11_refuse (nx := 2) rfl rfl rfl rfl ?_
        refine ev_putIT f_X11_refuse (nx := 5) rfl (hI.wf.s rfl) rfl rfl rfl (hI.put0 (hI.wf.s rfl) rfl rfl) (hX.upI rfl) (fun g35 e35 hI hX => ?_)
        refine ev_ic f_X11_refuse (nx := 6) (v := -1) rfl (by decide) rfl ?_
        refine ev_retK1 f_X11_refuse rfl rfl rfl ?_
        exact ev_ret f_X11_ship rfl rfl rfl ⟨_, _, _, rfl, hI, hX, ⟨_, rfl, (Int.le_trans (by decide : ((-2147483648):Int) ≤ (-1)) (by decide : ((-1):Int) ≤ ((-1):Int32).toInt)), (Int.le_trans (by decide : ((-1):Int32).toInt ≤ ((-1):Int)) (by decide : ((-1):Int) ≤ 2147483647)), (show ∀ (u : Nat) (D : s_D), gr 0 6 = .ref u → t_VL gr u → t_CV gi gl u D → t_Cb D → (∀ s : Nat, (s : Int) < D 1 → 0 ≤ D (56 + 5 * s) ∧ D (56 + 5 * s) ≤ 1) → ((0 ≤ ar1.toInt ∧ ar1.toInt < D 1 ∧ 0 ≤ ar2.toInt ∧ ar2.toInt ≤ 4) → ((-1) : Int) = D (52 + 5 * ar1.toNatClampNeg + ar2.toNatClampNeg)) ∧ (¬ (0 ≤ ar1.toInt ∧ ar1.toInt < D 1 ∧ 0 ≤ ar2.toInt ∧ ar2.toInt ≤ 4) → ((-1) : Int) = -1) from (by
                                                            intro u D hu hl hc hb h1
                                                            have ha : a5 = u := Value.ref.inj (e5.symm.trans hu)
                                                            subst ha
                                                            have hb1 : (a5 + 3) = a6 := Value.ref.inj ((hl.1.2.2.2.1).symm.trans e6)
                                                            subst hb1
                                                            have hm := hc.2.2.1.1
                                                            exact ⟨fun h => absurd h (by omega), fun _ => rfl⟩))⟩⟩
noncomputable def wl_e_ship : List (Nat × Nat) := [(69, 2)]
noncomputable def Q_e_ship (gi : Nat → Nat → Int32) (gl : Nat → Nat → Int64) (gr : Nat → Nat → Value) (ar1 : Int32) (ar2 : Int32) : Int32 → (Nat → Nat → Int32) → (Nat → Nat → Int64) → (Nat → Nat → Value) → Prop := fun (v : Int32) (gi2 : Nat → Nat → Int32) (gl2 : Nat → Nat → Int64) (gr2 : Nat → Nat → Value) => ∀ (D : s_D), t_ME 0 gi D → t_Cb D → ((0 ≤ ar1.toInt ∧ ar1.toInt < D 1 ∧ 0 ≤ ar2.toInt ∧ ar2.toInt ≤ 4) → v.toInt = D (52 + 5 * ar1.toNatClampNeg + ar2.toNatClampNeg)) ∧ (¬ (0 ≤ ar1.toInt ∧ ar1.toInt < D 1 ∧ 0 ≤ ar2.toInt ∧ ar2.toInt ≤ 4) → v.toInt = -1)
theorem c_e_ship {X : x_Ext} {d : Nat} {sh : List (Nat ⊕ (Nat × Nat))} {gi : Nat → Nat → Int32} {gl : Nat → Nat → Int64} {gr : Nat → Nat → Value} (hI : t_I sh gi gr) (ar1 : Int32) (ar2 : Int32) : x_Me X (d + 2) n_X12_ship [.ref 69, .int ar1, .int ar2] (sh, gi, gl, gr) (t_PI wl_e_ship sh gi gl gr (-1) 120 (Q_e_ship gi gl gr ar1 ar2)) := by
  have hX : t_X wl_e_ship sh gi gl gr gi gl gr := t_X.rf
  refine me_i f_X12_ship (hI.wf.s rfl) rfl rfl rfl ?_
  refine ev_loc f_X12_ship (nx := 1) rfl rfl rfl rfl ?_
  refine ev_loc f_X12_ship (nx := 2) rfl rfl rfl rfl ?_
  refine ev_inV2 f_X12_ship (nx := 5) (lo2 := [(0, .ref 69), (1, .int ar1)]) rfl rfl rfl rfl f_X12_isShip (hI.wf.s rfl) rfl rfl rfl rfl rfl ?_
  refine ev_loc f_X12_isShip (nx := 1) rfl rfl rfl rfl ?_
  refine ev_if f_X12_isShip (t1 := 18) (t2 := 4) rfl rfl rfl (fun h1 => ?_) (fun h1 => ?_)
  · have u2 : ar1.toInt ≤ (-1) := t_ltu h1 (by decide : (0:Int32).toInt ≤ (0:Int)) rfl
    refine ev_ic f_X12_isShip (nx := 19) (v := 0) rfl (by decide) rfl ?_
    refine ev_retK1 f_X12_isShip rfl rfl rfl ?_
    refine ev_t f_X12_ship (t1 := 37) (t2 := 8) rfl rfl rfl (by decide) ?_
    refine ev_loc f_X12_ship (nx := 38) rfl rfl rfl rfl ?_
    refine ev_ic f_X12_ship (nx := 39) (v := 1) rfl (by decide) rfl ?_
    refine ev_inV2 f_X12_ship (nx := 42) (lo2 := [(0, .ref 69), (1, .int 1)]) rfl rfl rfl rfl f_X12_refuse (hI.wf.s rfl) rfl rfl rfl rfl rfl ?_
    refine ev_loc f_X12_refuse (nx := 1) rfl rfl rfl rfl ?_
    refine ev_loc f_X12_refuse (nx := 2) rfl rfl rfl rfl ?_
    refine ev_putIT f_X12_refuse (nx := 5) rfl (hI.wf.s rfl) rfl rfl rfl (hI.put0 (hI.wf.s rfl) rfl rfl) (hX.upI rfl) (fun g3 e3 hI hX => ?_)
    refine ev_ic f_X12_refuse (nx := 6) (v := -1) rfl (by decide) rfl ?_
    refine ev_retK1 f_X12_refuse rfl rfl rfl ?_
    exact ev_ret f_X12_ship rfl rfl rfl ⟨_, _, _, rfl, hI, hX, ⟨_, rfl, (by decide : ((-1):Int) ≤ ((-1):Int32).toInt), (Int.le_trans (by decide : ((-1):Int32).toInt ≤ ((-1):Int)) (by decide : ((-1):Int) ≤ 120)), (show ∀ (D : s_D), t_ME 0 gi D → t_Cb D → ((0 ≤ ar1.toInt ∧ ar1.toInt < D 1 ∧ 0 ≤ ar2.toInt ∧ ar2.toInt ≤ 4) → ((-1) : Int) = D (52 + 5 * ar1.toNatClampNeg + ar2.toNatClampNeg)) ∧ (¬ (0 ≤ ar1.toInt ∧ ar1.toInt < D 1 ∧ 0 ≤ ar2.toInt ∧ ar2.toInt ≤ 4) → ((-1) : Int) = -1) from (by
                                                            intro D hm hb
                                                            have ha : (gi 70 1).toInt = D 1 := hm.1.1.2.1
                                                            exact ⟨fun h => absurd h (by omega), fun _ => rfl⟩))⟩⟩
  · have l4 : 0 ≤ ar1.toInt := t_lel (t_nlt h1) (by decide : (0:Int) ≤ (0:Int32).toInt)
    refine ev_loc f_X12_isShip (nx := 5) rfl rfl rfl rfl ?_
    refine ev_loc f_X12_isShip (nx := 6) rfl rfl rfl rfl ?_
    refine ev_getR f_X12_isShip (nx := 9) rfl (hI.wf.s rfl) rfl rfl (hI.wf.r rfl) rfl rfl ?_
    refine ev_ic f_X12_isShip (nx := 10) (v := 1) rfl (by decide) rfl ?_
    obtain ⟨l5, u5⟩ := hI.ab (by decide +kernel : t_abr 70 1 1 0 6 = true) (Nat.le_refl _) (Nat.le_refl _)
    refine ev_ialdv f_X12_isShip (nx := 11) (w := (gi 70 1)) rfl (hI.wf.s rfl) (by decide) (rfl : (1 : Int32).toNatClampNeg = 1) (by decide) rfl rfl ?_
    refine ev_if f_X12_isShip (t1 := 18) (t2 := 14) rfl rfl rfl (fun h6 => ?_) (fun h6 => ?_)
    · have r7 : (gi 70 1).toInt ≤ ar1.toInt := Int32.le_iff_toInt_le.mp h6
      refine ev_ic f_X12_isShip (nx := 19) (v := 0) rfl (by decide) rfl ?_
      refine ev_retK1 f_X12_isShip rfl rfl rfl ?_
      refine ev_t f_X12_ship (t1 := 37) (t2 := 8) rfl rfl rfl (by decide) ?_
      refine ev_loc f_X12_ship (nx := 38) rfl rfl rfl rfl ?_
      refine ev_ic f_X12_ship (nx := 39) (v := 1) rfl (by decide) rfl ?_
      refine ev_inV2 f_X12_ship (nx := 42) (lo2 := [(0, .ref 69), (1, .int 1)]) rfl rfl rfl rfl f_X12_refuse (hI.wf.s rfl) rfl rfl rfl rfl rfl ?_
      refine ev_loc f_X12_refuse (nx := 1) rfl rfl rfl rfl ?_
      refine ev_loc f_X12_refuse (nx := 2) rfl rfl rfl rfl ?_
      refine ev_putIT f_X12_refuse (nx := 5) rfl (hI.wf.s rfl) rfl rfl rfl (hI.put0 (hI.wf.s rfl) rfl rfl) (hX.upI rfl) (fun g8 e8 hI hX => ?_)
      refine ev_ic f_X12_refuse (nx := 6) (v := -1) rfl (by decide) rfl ?_
      refine ev_retK1 f_X12_refuse rfl rfl rfl ?_
      exact ev_ret f_X12_ship rfl rfl rfl ⟨_, _, _, rfl, hI, hX, ⟨_, rfl, (by decide : ((-1):Int) ≤ ((-1):Int32).toInt), (Int.le_trans (by decide : ((-1):Int32).toInt ≤ ((-1):Int)) (by decide : ((-1):Int) ≤ 120)), (show ∀ (D : s_D), t_ME 0 gi D → t_Cb D → ((0 ≤ ar1.toInt ∧ ar1.toInt < D 1 ∧ 0 ≤ ar2.toInt ∧ ar2.toInt ≤ 4) → ((-1) : Int) = D (52 + 5 * ar1.toNatClampNeg + ar2.toNatClampNeg)) ∧ (¬ (0 ≤ ar1.toInt ∧ ar1.toInt < D 1 ∧ 0 ≤ ar2.toInt ∧ ar2.toInt ≤ 4) → ((-1) : Int) = -1) from (by
                                                            intro D hm hb
                                                            have ha : (gi 70 1).toInt = D 1 := hm.1.1.2.1
                                                            exact ⟨fun h => absurd h (by omega), fun _ => rfl⟩))⟩⟩
    · have r9 : ar1.toInt < (gi 70 1).toInt := Int32.lt_iff_toInt_lt.mp (t_nle h6)
      have u10 : ar1.toInt ≤ 5 := t_ltu (t_nle h6) u5 rfl
      have l11 : 1 ≤ (gi 70 1).toInt := t_ltl (t_nle h6) l4 rfl
      refine ev_ic f_X12_isShip (nx := 15) (v := 1) rfl (by decide) rfl ?_
      refine ev_jmp f_X12_isShip (nx := 19) rfl rfl rfl ?_
      refine ev_retK1 f_X12_isShip rfl rfl rfl ?_
      refine ev_f f_X12_ship (t1 := 37) (t2 := 8) rfl rfl rfl (by decide) ?_
      refine ev_loc f_X12_ship (nx := 9) rfl rfl rfl rfl ?_
      refine ev_if f_X12_ship (t1 := 37) (t2 := 12) rfl rfl rfl (fun h12 => ?_) (fun h12 => ?_)
      · have u13 : ar2.toInt ≤ (-1) := t_ltu h12 (by decide : (0:Int32).toInt ≤ (0:Int)) rfl
        refine ev_loc f_X12_ship (nx := 38) rfl rfl rfl rfl ?_
        refine ev_ic f_X12_ship (nx := 39) (v := 1) rfl (by decide) rfl ?_
        refine ev_inV2 f_X12_ship (nx := 42) (lo2 := [(0, .ref 69), (1, .int 1)]) rfl rfl rfl rfl f_X12_refuse (hI.wf.s rfl) rfl rfl rfl rfl rfl ?_
        refine ev_loc f_X12_refuse (nx := 1) rfl rfl rfl rfl ?_
        refine ev_loc f_X12_refuse (nx := 2) rfl rfl rfl rfl ?_
        refine ev_putIT f_X12_refuse (nx := 5) rfl (hI.wf.s rfl) rfl rfl rfl (hI.put0 (hI.wf.s rfl) rfl rfl) (hX.upI rfl) (fun g14 e14 hI hX => ?_)
        refine ev_ic f_X12_refuse (nx := 6) (v := -1) rfl (by decide) rfl ?_
        refine ev_retK1 f_X12_refuse rfl rfl rfl ?_
        exact ev_ret f_X12_ship rfl rfl rfl ⟨_, _, _, rfl, hI, hX, ⟨_, rfl, (by decide : ((-1):Int) ≤ ((-1):Int32).toInt), (Int.le_trans (by decide : ((-1):Int32).toInt ≤ ((-1):Int)) (by decide : ((-1):Int) ≤ 120)), (show ∀ (D : s_D), t_ME 0 gi D → t_Cb D → ((0 ≤ ar1.toInt ∧ ar1.toInt < D 1 ∧ 0 ≤ ar2.toInt ∧ ar2.toInt ≤ 4) → ((-1) : Int) = D (52 + 5 * ar1.toNatClampNeg + ar2.toNatClampNeg)) ∧ (¬ (0 ≤ ar1.toInt ∧ ar1.toInt < D 1 ∧ 0 ≤ ar2.toInt ∧ ar2.toInt ≤ 4) → ((-1) : Int) = -1) from (by
                                                            intro D hm hb
                                                            have ha : (gi 70 1).toInt = D 1 := hm.1.1.2.1
                                                            exact ⟨fun h => absurd h (by omega), fun _ => rfl⟩))⟩⟩
      · have l15 : 0 ≤ ar2.toInt := t_lel (t_nlt h12) (by decide : (0:Int) ≤ (0:Int32).toInt)
        refine ev_loc f_X12_ship (nx := 13) rfl rfl rfl rfl ?_
        refine ev_ic f_X12_ship (nx := 14) (v := 4) rfl (by decide) rfl ?_
        refine ev_if f_X12_ship (t1 := 37) (t2 := 17) rfl rfl rfl (fun h16 => ?_) (fun h16 => ?_)
        · have l17 : 5 ≤ ar2.toInt := t_ltl h16 (by decide : (4:Int) ≤ (4:Int32).toInt) rfl
          refine ev_loc f_X12_ship (nx := 38) rfl rfl rfl rfl ?_
          refine ev_ic f_X12_ship (nx := 39) (v := 1) rfl (by decide) rfl ?_
          refine ev_inV2 f_X12_ship (nx := 42) (lo2 := [(0, .ref 69), (1, .int 1)]) rfl rfl rfl rfl f_X12_refuse (hI.wf.s rfl) rfl rfl rfl rfl rfl ?_
          refine ev_loc f_X12_refuse (nx := 1) rfl rfl rfl rfl ?_
          refine ev_loc f_X12_refuse (nx := 2) rfl rfl rfl rfl ?_
          refine ev_putIT f_X12_refuse (nx := 5) rfl (hI.wf.s rfl) rfl rfl rfl (hI.put0 (hI.wf.s rfl) rfl rfl) (hX.upI rfl) (fun g18 e18 hI hX => ?_)
          refine ev_ic f_X12_refuse (nx := 6) (v := -1) rfl (by decide) rfl ?_
          refine ev_retK1 f_X12_refuse rfl rfl rfl ?_
          exact ev_ret f_X12_ship rfl rfl rfl ⟨_, _, _, rfl, hI, hX, ⟨_, rfl, (by decide : ((-1):Int) ≤ ((-1):Int32).toInt), (Int.le_trans (by decide : ((-1):Int32).toInt ≤ ((-1):Int)) (by decide : ((-1):Int) ≤ 120)), (show ∀ (D : s_D), t_ME 0 gi D → t_Cb D → ((0 ≤ ar1.toInt ∧ ar1.toInt < D 1 ∧ 0 ≤ ar2.toInt ∧ ar2.toInt ≤ 4) → ((-1) : Int) = D (52 + 5 * ar1.toNatClampNeg + ar2.toNatClampNeg)) ∧ (¬ (0 ≤ ar1.toInt ∧ ar1.toInt < D 1 ∧ 0 ≤ ar2.toInt ∧ ar2.toInt ≤ 4) → ((-1) : Int) = -1) from (by
                                                            intro D hm hb
                                                            have ha : (gi 70 1).toInt = D 1 := hm.1.1.2.1
                                                            exact ⟨fun h => absurd h (by omega), fun _ => rfl⟩))⟩⟩
        · have u19 : ar2.toInt ≤ 4 := t_leu (t_nlt h16) (by decide : (4:Int32).toInt ≤ (4:Int))
          refine ev_loc f_X12_ship (nx := 18) rfl rfl rfl rfl ?_
          refine ev_loc f_X12_ship (nx := 19) rfl rfl rfl rfl ?_
          refine ev_getR f_X12_ship (nx := 22) rfl (hI.wf.s rfl) rfl rfl (hI.wf.r rfl) rfl rfl ?_
          refine ev_bp f_X12_ship (nx := 24) (v := 52) rfl (by decide) rfl ?_
          refine ev_ic f_X12_ship (nx := 25) (v := 5) rfl (by decide) rfl ?_
          refine ev_loc f_X12_ship (nx := 26) rfl rfl rfl rfl ?_
          refine ev_mulL f_X12_ship (nx := 27) (c := 5) (l := 0) (u := 25) rfl (by decide) (by decide) l4 u10 rfl rfl (by decide) (by decide) rfl (fun z20 e20 l20 u20 => ?_)
          refine ev_addK f_X12_ship (nx := 28) (c := 52) (l := 52) (u := 77) rfl (by decide) l20 u20 rfl rfl (by decide) (by decide) rfl (fun z21 e21 l21 u21 => ?_)
          refine ev_loc f_X12_ship (nx := 29) rfl rfl rfl rfl ?_
          refine ev_addR f_X12_ship (nx := 30) (l := 52) (u := 81) rfl l21 u21 l15 u19 rfl rfl (by decide) (by decide) rfl (fun z22 e22 l22 u22 => ?_)
          refine ev_ialdT f_X12_ship (nx := 31) rfl (hI.wf.s rfl) l22 (by decide) u22 (by decide) rfl (fun w23 e23 => ?_)
          obtain ⟨l23, u23⟩ := hI.abi e23 (by decide +kernel : t_abr 70 52 81 (-1) 120 = true) l22 (by decide) u22 (by decide)
          refine ev_inV2 f_X12_ship (nx := 34) (lo2 := [(0, .ref 69), (1, .int w23)]) rfl rfl rfl rfl f_X12_gives (hI.wf.s rfl) rfl rfl rfl rfl rfl ?_
          refine ev_loc f_X12_gives (nx := 1) rfl rfl rfl rfl ?_
          refine ev_ic f_X12_gives (nx := 2) (v := 0) rfl (by decide) rfl ?_
          refine ev_putIT f_X12_gives (nx := 5) rfl (hI.wf.s rfl) rfl rfl rfl (hI.put0 (hI.wf.s rfl) rfl rfl) (hX.upI rfl) (fun g24 e24 hI hX => ?_)
          refine ev_loc f_X12_gives (nx := 6) rfl rfl rfl rfl ?_
          refine ev_retK1 f_X12_gives rfl rfl rfl ?_
          refine ev_jmp f_X12_ship (nx := 42) rfl rfl rfl ?_
          exact ev_ret f_X12_ship rfl rfl rfl ⟨_, _, _, rfl, hI, hX, ⟨_, rfl, l23, u23, (show ∀ (D : s_D), t_ME 0 gi D → t_Cb D → ((0 ≤ ar1.toInt ∧ ar1.toInt < D 1 ∧ 0 ≤ ar2.toInt ∧ ar2.toInt ≤ 4) → w23.toInt = D (52 + 5 * ar1.toNatClampNeg + ar2.toNatClampNeg)) ∧ (¬ (0 ≤ ar1.toInt ∧ ar1.toInt < D 1 ∧ 0 ≤ ar2.toInt ∧ ar2.toInt ≤ 4) → w23.toInt = -1) from (by
                                                            intro D hm hb
                                                            have ha : (gi 70 1).toInt = D 1 := hm.1.1.2.1
                                                            have ka := t_clamp (i := ar1) (by omega)
                                                            have kb := t_clamp (i := ar2) (by omega)
                                                            have kc := t_clamp (i := z22) (by omega)
                                                            refine ⟨fun _ => ?_, fun h => absurd (show _ from ⟨by omega, by omega, by omega, by omega⟩) h⟩
                                                            have hd := hm.2.2.1 (52 + 5 * ar1.toNatClampNeg + ar2.toNatClampNeg) (by omega) (by omega)
                                                            rw [e23, show z22.toNatClampNeg = 0 + (52 + 5 * ar1.toNatClampNeg + ar2.toNatClampNeg) by omega]; exact hd))⟩⟩
noncomputable def wl_d_cart : List (Nat × Nat) := [(0, 0)]
noncomputable def Q_d_cart (gi : Nat → Nat → Int32) (gl : Nat → Nat → Int64) (gr : Nat → Nat → Value) (ar1 : Int32) (ar2 : Int32) : Int32 → (Nat → Nat → Int32) → (Nat → Nat → Int64) → (Nat → Nat → Value) → Prop := fun (v : Int32) (gi2 : Nat → Nat → Int32) (gl2 : Nat → Nat → Int64) (gr2 : Nat → Nat → Value) => ∀ (u : Nat) (D : s_D), gr 0 6 = .ref u → t_VL gr u → t_CV gi gl u D → t_Cb D → ((0 ≤ ar1.toInt ∧ ar1.toInt < D 2 ∧ 0 ≤ ar2.toInt ∧ ar2.toInt ≤ 2) → v.toInt = D (82 + 3 * ar1.toNatClampNeg + ar2.toNatClampNeg)) ∧ (¬ (0 ≤ ar1.toInt ∧ ar1.toInt < D 2 ∧ 0 ≤ ar2.toInt ∧ ar2.toInt ≤ 2) → v.toInt = -1)
theorem c_d_cart {X : x_Ext} {d : Nat} {sh : List (Nat ⊕ (Nat × Nat))} {gi : Nat → Nat → Int32} {gl : Nat → Nat → Int64} {gr : Nat → Nat → Value} (hI : t_I sh gi gr) (ar1 : Int32) (ar2 : Int32) : x_Me X (d + 2) n_X11_cart [.ref 0, .int ar1, .int ar2] (sh, gi, gl, gr) (t_PI wl_d_cart sh gi gl gr (-2147483648) 2147483647 (Q_d_cart gi gl gr ar1 ar2)) := by
  have hX : t_X wl_d_cart sh gi gl gr gi gl gr := t_X.rf
  refine me_i f_X11_cart (hI.wf.s rfl) rfl rfl rfl ?_
  refine ev_loc f_X11_cart (nx := 1) rfl rfl rfl rfl ?_
  refine ev_loc f_X11_cart (nx := 2) rfl rfl rfl rfl ?_
  refine ev_inV2 f_X11_cart (nx := 5) (lo2 := [(0, .ref 0), (1, .int ar1)]) rfl rfl rfl rfl f_X11_isCart (hI.wf.s rfl) rfl rfl rfl rfl rfl ?_
  refine ev_loc f_X11_isCart (nx := 1) rfl rfl rfl rfl ?_
  refine ev_if f_X11_isCart (t1 := 22) (t2 := 4) rfl rfl rfl (fun h1 => ?_) (fun h1 => ?_)
  · have u2 : ar1.toInt ≤ (-1) := t_ltu h1 (by decide : (0:Int32).toInt ≤ (0:Int)) rfl
    refine ev_ic f_X11_isCart (nx := 23) (v := 0) rfl (by decide) rfl ?_
    refine ev_retK1 f_X11_isCart rfl rfl rfl ?_
    refine ev_t f_X11_cart (t1 := 8) (t2 := 14) rfl rfl rfl (by decide) ?_
    refine ev_loc f_X11_cart (nx := 9) rfl rfl rfl rfl ?_
    refine ev_ic f_X11_cart (nx := 10) (v := 1) rfl (by decide) rfl ?_
    refine ev_inV2 f_X11_cart (nx := 13) (lo2 := [(0, .ref 0), (1, .int 1)]) rfl rfl rfl rfl f_X11_refuse (hI.wf.s rfl) rfl rfl rfl rfl rfl ?_
    refine ev_loc f_X11_refuse (nx := 1) rfl rfl rfl rfl ?_
    refine ev_loc f_X11_refuse (nx := 2) rfl rfl rfl rfl ?_
    refine ev_putIT f_X11_refuse (nx := 5) rfl (hI.wf.s rfl) rfl rfl rfl (hI.put0 (hI.wf.s rfl) rfl rfl) (hX.upI rfl) (fun g3 e3 hI hX => ?_)
    refine ev_ic f_X11_refuse (nx := 6) (v := -1) rfl (by decide) rfl ?_
    refine ev_retK1 f_X11_refuse rfl rfl rfl ?_
    exact ev_ret f_X11_cart rfl rfl rfl ⟨_, _, _, rfl, hI, hX, ⟨_, rfl, (Int.le_trans (by decide : ((-2147483648):Int) ≤ (-1)) (by decide : ((-1):Int) ≤ ((-1):Int32).toInt)), (Int.le_trans (by decide : ((-1):Int32).toInt ≤ ((-1):Int)) (by decide : ((-1):Int) ≤ 2147483647)), (show ∀ (u : Nat) (D : s_D), gr 0 6 = .ref u → t_VL gr u → t_CV gi gl u D → t_Cb D → ((0 ≤ ar1.toInt ∧ ar1.toInt < D 2 ∧ 0 ≤ ar2.toInt ∧ ar2.toInt ≤ 2) → ((-1) : Int) = D (82 + 3 * ar1.toNatClampNeg + ar2.toNatClampNeg)) ∧ (¬ (0 ≤ ar1.toInt ∧ ar1.toInt < D 2 ∧ 0 ≤ ar2.toInt ∧ ar2.toInt ≤ 2) → ((-1) : Int) = -1) from (by
                                                            intro u D hu hl hc hb
                                                            have hm := hc.2.2.2.1
                                                            exact ⟨fun h => absurd h (by omega), fun _ => rfl⟩))⟩⟩
  · have l4 : 0 ≤ ar1.toInt := t_lel (t_nlt h1) (by decide : (0:Int) ≤ (0:Int32).toInt)
    refine ev_loc f_X11_isCart (nx := 5) rfl rfl rfl rfl ?_
    refine ev_loc f_X11_isCart (nx := 6) rfl rfl rfl rfl ?_
    obtain ⟨a5, e5, p5⟩ := hI.2.2.2.1.1
    refine ev_getR f_X11_isCart (nx := 9) rfl (hI.wf.s rfl) rfl rfl e5 rfl rfl ?_
    obtain ⟨a6, e6, p6⟩ := p5.2.2.2.2.2
    refine ev_getR f_X11_isCart (nx := 12) rfl p5.1 rfl rfl e6 rfl rfl ?_
    refine ev_getI f_X11_isCart (nx := 15) rfl p6.1 rfl rfl rfl ?_
    obtain ⟨l7, u7⟩ := hI.b p6.1 (t_bdK rfl : t_bd 3 0 = some (0, 6))
    refine ev_if f_X11_isCart (t1 := 22) (t2 := 18) rfl rfl rfl (fun h8 => ?_) (fun h8 => ?_)
    · have r9 : (gi a6 0).toInt ≤ ar1.toInt := Int32.le_iff_toInt_le.mp h8
      refine ev_ic f_X11_isCart (nx := 23) (v := 0) rfl (by decide) rfl ?_
      refine ev_retK1 f_X11_isCart rfl rfl rfl ?_
      refine ev_t f_X11_cart (t1 := 8) (t2 := 14) rfl rfl rfl (by decide) ?_
      refine ev_loc f_X11_cart (nx := 9) rfl rfl rfl rfl ?_
      refine ev_ic f_X11_cart (nx := 10) (v := 1) rfl (by decide) rfl ?_
      refine ev_inV2 f_X11_cart (nx := 13) (lo2 := [(0, .ref 0), (1, .int 1)]) rfl rfl rfl rfl f_X11_refuse (hI.wf.s rfl) rfl rfl rfl rfl rfl ?_
      refine ev_loc f_X11_refuse (nx := 1) rfl rfl rfl rfl ?_
      refine ev_loc f_X11_refuse (nx := 2) rfl rfl rfl rfl ?_
      refine ev_putIT f_X11_refuse (nx := 5) rfl (hI.wf.s rfl) rfl rfl rfl (hI.put0 (hI.wf.s rfl) rfl rfl) (hX.upI rfl) (fun g10 e10 hI hX => ?_)
      refine ev_ic f_X11_refuse (nx := 6) (v := -1) rfl (by decide) rfl ?_
      refine ev_retK1 f_X11_refuse rfl rfl rfl ?_
      exact ev_ret f_X11_cart rfl rfl rfl ⟨_, _, _, rfl, hI, hX, ⟨_, rfl, (Int.le_trans (by decide : ((-2147483648):Int) ≤ (-1)) (by decide : ((-1):Int) ≤ ((-1):Int32).toInt)), (Int.le_trans (by decide : ((-1):Int32).toInt ≤ ((-1):Int)) (by decide : ((-1):Int) ≤ 2147483647)), (show ∀ (u : Nat) (D : s_D), gr 0 6 = .ref u → t_VL gr u → t_CV gi gl u D → t_Cb D → ((0 ≤ ar1.toInt ∧ ar1.toInt < D 2 ∧ 0 ≤ ar2.toInt ∧ ar2.toInt ≤ 2) → ((-1) : Int) = D (82 + 3 * ar1.toNatClampNeg + ar2.toNatClampNeg)) ∧ (¬ (0 ≤ ar1.toInt ∧ ar1.toInt < D 2 ∧ 0 ≤ ar2.toInt ∧ ar2.toInt ≤ 2) → ((-1) : Int) = -1) from (by
                                                            intro u D hu hl hc hb
                                                            have ha : a5 = u := Value.ref.inj (e5.symm.trans hu)
                                                            subst ha
                                                            have hb1 : (a5 + 10) = a6 := Value.ref.inj ((hl.1.2.2.2.2).symm.trans e6)
                                                            subst hb1
                                                            have hm := hc.2.2.2.1
                                                            exact ⟨fun h => absurd h (by omega), fun _ => rfl⟩))⟩⟩
    · have r11 : ar1.toInt < (gi a6 0).toInt := Int32.lt_iff_toInt_lt.mp (t_nle h8)
      have u12 : ar1.toInt ≤ 5 := t_ltu (t_nle h8) u7 rfl
      have l13 : 1 ≤ (gi a6 0).toInt := t_ltl (t_nle h8) l4 rfl
      refine ev_ic f_X11_isCart (nx := 19) (v := 1) rfl (by decide) rfl ?_
      refine ev_jmp f_X11_isCart (nx := 23) rfl rfl rfl ?_
      refine ev_retK1 f_X11_isCart rfl rfl rfl ?_
      refine ev_f f_X11_cart (t1 := 8) (t2 := 14) rfl rfl rfl (by decide) ?_
      refine ev_loc f_X11_cart (nx := 15) rfl rfl rfl rfl ?_
      have h14 : ar2.toInt = 0 ∨ ar2.toInt = 1 ∨ ar2.toInt = 2 ∨ (ar2.toInt ≠ 0 ∧ ar2.toInt ≠ 1 ∧ ar2.toInt ≠ 2) := by have := (t_lo ar2); have := (t_hi ar2); omega
      rcases h14 with h14 | h14 | h14 | h14
      · refine ev_swt f_X11_cart (nx := 40) (c := 0) rfl h14 rfl ?_
        refine ev_loc f_X11_cart (nx := 41) rfl rfl rfl rfl ?_
        refine ev_loc f_X11_cart (nx := 42) rfl rfl rfl rfl ?_
        refine ev_getR f_X11_cart (nx := 45) (v := .ref a5) rfl (hI.wf.s rfl) rfl rfl e5 rfl rfl ?_
        refine ev_getR f_X11_cart (nx := 48) (v := .ref a6) rfl p5.1 rfl rfl e6 rfl rfl ?_
        obtain ⟨a15, e15, s15, o15⟩ := p6.2.2.1
        refine ev_getR f_X11_cart (nx := 51) rfl p6.1 rfl rfl e15 rfl rfl ?_
        refine ev_loc f_X11_cart (nx := 52) rfl rfl rfl rfl ?_
        refine ev_ialdT f_X11_cart (nx := 53) rfl s15 l4 (by decide) u12 (by decide) rfl (fun w16 e16 => ?_)
        refine ev_inV2 f_X11_cart (nx := 56) (lo2 := [(0, .ref 0), (1, .int w16)]) rfl rfl rfl rfl f_X11_answer (hI.wf.s rfl) rfl rfl rfl rfl rfl ?_
        refine ev_loc f_X11_answer (nx := 1) rfl rfl rfl rfl ?_
        refine ev_ic f_X11_answer (nx := 2) (v := 0) rfl (by decide) rfl ?_
        refine ev_putIT f_X11_answer (nx := 5) rfl (hI.wf.s rfl) rfl rfl rfl (hI.put0 (hI.wf.s rfl) rfl rfl) (hX.upI rfl) (fun g17 e17 hI hX => ?_)
        refine ev_loc f_X11_answer (nx := 6) rfl rfl rfl rfl ?_
        refine ev_retK1 f_X11_answer rfl rfl rfl ?_
        exact ev_ret f_X11_cart rfl rfl rfl ⟨_, _, _, rfl, hI, hX, ⟨_, rfl, (t_lo w16), (t_hi w16), (show ∀ (u : Nat) (D : s_D), gr 0 6 = .ref u → t_VL gr u → t_CV gi gl u D → t_Cb D → ((0 ≤ ar1.toInt ∧ ar1.toInt < D 2 ∧ 0 ≤ ar2.toInt ∧ ar2.toInt ≤ 2) → w16.toInt = D (82 + 3 * ar1.toNatClampNeg + ar2.toNatClampNeg)) ∧ (¬ (0 ≤ ar1.toInt ∧ ar1.toInt < D 2 ∧ 0 ≤ ar2.toInt ∧ ar2.toInt ≤ 2) → w16.toInt = -1) from (by
                                                            intro u D hu hl hc hb
                                                            have ha : a5 = u := Value.ref.inj (e5.symm.trans hu)
                                                            subst ha
                                                            have hb1 : (a5 + 10) = a6 := Value.ref.inj ((hl.1.2.2.2.2).symm.trans e6)
                                                            subst hb1
                                                            have hb2 : (a5 + 10 + 2) = a15 := Value.ref.inj ((hl.2.2.2.1).symm.trans e15)
                                                            subst hb2
                                                            have hm := hc.2.2.2.1
                                                            have ka := t_clamp (i := ar1) (by omega)
                                                            have kb := t_clamp (i := ar2) (by omega)
                                                            have hs := hc.2.2.2.2 ar1.toNatClampNeg (by omega)
                                                            refine ⟨fun _ => ?_, fun h => absurd (show _ from ⟨by omega, by omega, by omega, by omega⟩) h⟩
                                                            rw [show 82 + 3 * ar1.toNatClampNeg + ar2.toNatClampNeg = 82 + 3 * ar1.toNatClampNeg by omega]
                                                            rw [e16]; exact hs.1))⟩⟩
      · refine ev_swt f_X11_cart (nx := 57) (c := 1) rfl h14 rfl ?_
        refine ev_loc f_X11_cart (nx := 58) rfl rfl rfl rfl ?_
        refine ev_loc f_X11_cart (nx := 59) rfl rfl rfl rfl ?_
        refine ev_getR f_X11_cart (nx := 62) (v := .ref a5) rfl (hI.wf.s rfl) rfl rfl e5 rfl rfl ?_
        refine ev_getR f_X11_cart (nx := 65) (v := .ref a6) rfl p5.1 rfl rfl e6 rfl rfl ?_
        obtain ⟨a18, e18, s18, o18⟩ := p6.2.2.2.1
        refine ev_getR f_X11_cart (nx := 68) rfl p6.1 rfl rfl e18 rfl rfl ?_
        refine ev_loc f_X11_cart (nx := 69) rfl rfl rfl rfl ?_
        refine ev_ialdT f_X11_cart (nx := 70) rfl s18 l4 (by decide) u12 (by decide) rfl (fun w19 e19 => ?_)
        refine ev_inV2 f_X11_cart (nx := 73) (lo2 := [(0, .ref 0), (1, .int w19)]) rfl rfl rfl rfl f_X11_answer (hI.wf.s rfl) rfl rfl rfl rfl rfl ?_
        refine ev_loc f_X11_answer (nx := 1) rfl rfl rfl rfl ?_
        refine ev_ic f_X11_answer (nx := 2) (v := 0) rfl (by decide) rfl ?_
        refine ev_putIT f_X11_answer (nx := 5) rfl (hI.wf.s rfl) rfl rfl rfl (hI.put0 (hI.wf.s rfl) rfl rfl) (hX.upI rfl) (fun g20 e20 hI hX => ?_)
        refine ev_loc f_X11_answer (nx := 6) rfl rfl rfl rfl ?_
        refine ev_retK1 f_X11_answer rfl rfl rfl ?_
        exact ev_ret f_X11_cart rfl rfl rfl ⟨_, _, _, rfl, hI, hX, ⟨_, rfl, (t_lo w19), (t_hi w19), (show ∀ (u : Nat) (D : s_D), gr 0 6 = .ref u → t_VL gr u → t_CV gi gl u D → t_Cb D → ((0 ≤ ar1.toInt ∧ ar1.toInt < D 2 ∧ 0 ≤ ar2.toInt ∧ ar2.toInt ≤ 2) → w19.toInt = D (82 + 3 * ar1.toNatClampNeg + ar2.toNatClampNeg)) ∧ (¬ (0 ≤ ar1.toInt ∧ ar1.toInt < D 2 ∧ 0 ≤ ar2.toInt ∧ ar2.toInt ≤ 2) → w19.toInt = -1) from (by
                                                            intro u D hu hl hc hb
                                                            have ha : a5 = u := Value.ref.inj (e5.symm.trans hu)
                                                            subst ha
                                                            have hb1 : (a5 + 10) = a6 := Value.ref.inj ((hl.1.2.2.2.2).symm.trans e6)
                                                            subst hb1
                                                            have hb2 : (a5 + 10 + 3) = a18 := Value.ref.inj ((hl.2.2.2.2.1).symm.trans e18)
                                                            subst hb2
                                                            have hm := hc.2.2.2.1
                                                            have ka := t_clamp (i := ar1) (by omega)
                                                            have kb := t_clamp (i := ar2) (by omega)
                                                            have hs := hc.2.2.2.2 ar1.toNatClampNeg (by omega)
                                                            refine ⟨fun _ => ?_, fun h => absurd (show _ from ⟨by omega, by omega, by omega, by omega⟩) h⟩
                                                            rw [show 82 + 3 * ar1.toNatClampNeg + ar2.toNatClampNeg = 83 + 3 * ar1.toNatClampNeg by omega]
                                                            rw [e19]; exact hs.2.1))⟩⟩
      · refine ev_swt f_X11_cart (nx := 74) (c := 2) rfl h14 rfl ?_
        refine ev_loc f_X11_cart (nx := 75) rfl rfl rfl rfl ?_
        refine ev_loc f_X11_cart (nx := 76) rfl rfl rfl rfl ?_
        refine ev_getR f_X11_cart (nx := 79) (v := .ref a5) rfl (hI.wf.s rfl) rfl rfl e5 rfl rfl ?_
        refine ev_getR f_X11_cart (nx := 82) (v := .ref a6) rfl p5.1 rfl rfl e6 rfl rfl ?_
        obtain ⟨a21, e21, s21, o21⟩ := p6.2.2.2.2.1
        refine ev_getR f_X11_cart (nx := 85) rfl p6.1 rfl rfl e21 rfl rfl ?_
        refine ev_loc f_X11_cart (nx := 86) rfl rfl rfl rfl ?_
        refine ev_ialdT f_X11_cart (nx := 87) rfl s21 l4 (by decide) u12 (by decide) rfl (fun w22 e22 => ?_)
        refine ev_inV2 f_X11_cart (nx := 90) (lo2 := [(0, .ref 0), (1, .int w22)]) rfl rfl rfl rfl f_X11_answer (hI.wf.s rfl) rfl rfl rfl rfl rfl ?_
        refine ev_loc f_X11_answer (nx := 1) rfl rfl rfl rfl ?_
        refine ev_ic f_X11_answer (nx := 2) (v := 0) rfl (by decide) rfl ?_
        refine ev_putIT f_X11_answer (nx := 5) rfl (hI.wf.s rfl) rfl rfl rfl (hI.put0 (hI.wf.s rfl) rfl rfl) (hX.upI rfl) (fun g23 e23 hI hX => ?_)
        refine ev_loc f_X11_answer (nx := 6) rfl rfl rfl rfl ?_
        refine ev_retK1 f_X11_answer rfl rfl rfl ?_
        exact ev_ret f_X11_cart rfl rfl rfl ⟨_, _, _, rfl, hI, hX, ⟨_, rfl, (t_lo w22), (t_hi w22), (show ∀ (u : Nat) (D : s_D), gr 0 6 = .ref u → t_VL gr u → t_CV gi gl u D → t_Cb D → ((0 ≤ ar1.toInt ∧ ar1.toInt < D 2 ∧ 0 ≤ ar2.toInt ∧ ar2.toInt ≤ 2) → w22.toInt = D (82 + 3 * ar1.toNatClampNeg + ar2.toNatClampNeg)) ∧ (¬ (0 ≤ ar1.toInt ∧ ar1.toInt < D 2 ∧ 0 ≤ ar2.toInt ∧ ar2.toInt ≤ 2) → w22.toInt = -1) from (by
                                                            intro u D hu hl hc hb
                                                            have ha : a5 = u := Value.ref.inj (e5.symm.trans hu)
                                                            subst ha
                                                            have hb1 : (a5 + 10) = a6 := Value.ref.inj ((hl.1.2.2.2.2).symm.trans e6)
                                                            subst hb1
                                                            have hb2 : (a5 + 10 + 4) = a21 := Value.ref.inj ((hl.2.2.2.2.2.1).symm.trans e21)
                                                            subst hb2
                                                            have hm := hc.2.2.2.1
                                                            have ka := t_clamp (i := ar1) (by omega)
                                                            have kb := t_clamp (i := ar2) (by omega)
                                                            have hs := hc.2.2.2.2 ar1.toNatClampNeg (by omega)
                                                            refine ⟨fun _ => ?_, fun h => absurd (show _ from ⟨by omega, by omega, by omega, by omega⟩) h⟩
                                                            rw [show 82 + 3 * ar1.toNatClampNeg + ar2.toNatClampNeg = 84 + 3 * ar1.toNatClampNeg by omega]
                                                            rw [e22]; exact hs.2.2))⟩⟩
      · refine ev_swtd f_X11_cart (nx := 91) rfl (by omega) (by decide) rfl ?_
        refine ev_loc f_X11_cart (nx := 92) rfl rfl rfl rfl ?_
        refine ev_ic f_X11_cart (nx := 93) (v := 1) rfl (by decide) rfl ?_
        refine ev_inV2 f_X11_cart (nx := 96) (lo2 := [(0, .ref 0), (1, .int 1)]) rfl rfl rfl rfl f_X11_refuse (hI.wf.s rfl) rfl rfl rfl rfl rfl ?_
        refine ev_loc f_X11_refuse (nx := 1) rfl rfl rfl rfl ?_
        refine ev_loc f_X11_refuse (nx := 2) rfl rfl rfl rfl ?_
        refine ev_putIT f_X11_refuse (nx := 5) rfl (hI.wf.s rfl) rfl rfl rfl (hI.put0 (hI.wf.s rfl) rfl rfl) (hX.upI rfl) (fun g24 e24 hI hX => ?_)
        refine ev_ic f_X11_refuse (nx := 6) (v := -1) rfl (by decide) rfl ?_
        refine ev_retK1 f_X11_refuse rfl rfl rfl ?_
        exact ev_ret f_X11_cart rfl rfl rfl ⟨_, _, _, rfl, hI, hX, ⟨_, rfl, (Int.le_trans (by decide : ((-2147483648):Int) ≤ (-1)) (by decide : ((-1):Int) ≤ ((-1):Int32).toInt)), (Int.le_trans (by decide : ((-1):Int32).toInt ≤ ((-1):Int)) (by decide : ((-1):Int) ≤ 2147483647)), (show ∀ (u : Nat) (D : s_D), gr 0 6 = .ref u → t_VL gr u → t_CV gi gl u D → t_Cb D → ((0 ≤ ar1.toInt ∧ ar1.toInt < D 2 ∧ 0 ≤ ar2.toInt ∧ ar2.toInt ≤ 2) → ((-1) : Int) = D (82 + 3 * ar1.toNatClampNeg + ar2.toNatClampNeg)) ∧ (¬ (0 ≤ ar1.toInt ∧ ar1.toInt < D 2 ∧ 0 ≤ ar2.toInt ∧ ar2.toInt ≤ 2) → ((-1) : Int) = -1) from (by
                                                            intro u D hu hl hc hb
                                                            have ha : a5 = u := Value.ref.inj (e5.symm.trans hu)
                                                            subst ha
                                                            have hb1 : (a5 + 10) = a6 := Value.ref.inj ((hl.1.2.2.2.2).symm.trans e6)
                                                            subst hb1
                                                            have hm := hc.2.2.2.1
                                                            exact ⟨fun h => absurd h (by omega), fun _ => rfl⟩))⟩⟩
noncomputable def wl_e_cart : List (Nat × Nat) := [(69, 2)]
noncomputable def Q_e_cart (gi : Nat → Nat → Int32) (gl : Nat → Nat → Int64) (gr : Nat → Nat → Value) (ar1 : Int32) (ar2 : Int32) : Int32 → (Nat → Nat → Int32) → (Nat → Nat → Int64) → (Nat → Nat → Value) → Prop := fun (v : Int32) (gi2 : Nat → Nat → Int32) (gl2 : Nat → Nat → Int64) (gr2 : Nat → Nat → Value) => ∀ (D : s_D), t_ME 0 gi D → t_Cb D → ((0 ≤ ar1.toInt ∧ ar1.toInt < D 2 ∧ 0 ≤ ar2.toInt ∧ ar2.toInt ≤ 2) → v.toInt = D (82 + 3 * ar1.toNatClampNeg + ar2.toNatClampNeg)) ∧ (¬ (0 ≤ ar1.toInt ∧ ar1.toInt < D 2 ∧ 0 ≤ ar2.toInt ∧ ar2.toInt ≤ 2) → v.toInt = -1)
theorem c_e_cart {X : x_Ext} {d : Nat} {sh : List (Nat ⊕ (Nat × Nat))} {gi : Nat → Nat → Int32} {gl : Nat → Nat → Int64} {gr : Nat → Nat → Value} (hI : t_I sh gi gr) (ar1 : Int32) (ar2 : Int32) : x_Me X (d + 2) n_X12_cart [.ref 69, .int ar1, .int ar2] (sh, gi, gl, gr) (t_PI wl_e_cart sh gi gl gr (-1) 120 (Q_e_cart gi gl gr ar1 ar2)) := by
  have hX : t_X wl_e_cart sh gi gl gr gi gl gr := t_X.rf
  refine me_i f_X12_cart (hI.wf.s rfl) rfl rfl rfl ?_
  refine ev_loc f_X12_cart (nx := 1) rfl rfl rfl rfl ?_
  refine ev_loc f_X12_cart (nx := 2) rfl rfl rfl rfl ?_
  refine ev_inV2 f_X12_cart (nx := 5) (lo2 := [(0, .ref 69), (1, .int ar1)]) rfl rfl rfl rfl f_X12_isCart (hI.wf.s rfl) rfl rfl rfl rfl rfl ?_
  refine ev_loc f_X12_isCart (nx := 1) rfl rfl rfl rfl ?_
  refine ev_if f_X12_isCart (t1 := 18) (t2 := 4) rfl rfl rfl (fun h1 => ?_) (fun h1 => ?_)
  · have u2 : ar1.toInt ≤ (-1) := t_ltu h1 (by decide : (0:Int32).toInt ≤ (0:Int)) rfl
    refine ev_ic f_X12_isCart (nx := 19) (v := 0) rfl (by decide) rfl ?_
    refine ev_retK1 f_X12_isCart rfl rfl rfl ?_
    refine ev_t f_X12_cart (t1 := 37) (t2 := 8) rfl rfl rfl (by decide) ?_
    refine ev_loc f_X12_cart (nx := 38) rfl rfl rfl rfl ?_
    refine ev_ic f_X12_cart (nx := 39) (v := 1) rfl (by decide) rfl ?_
    refine ev_inV2 f_X12_cart (nx := 42) (lo2 := [(0, .ref 69), (1, .int 1)]) rfl rfl rfl rfl f_X12_refuse (hI.wf.s rfl) rfl rfl rfl rfl rfl ?_
    refine ev_loc f_X12_refuse (nx := 1) rfl rfl rfl rfl ?_
    refine ev_loc f_X12_refuse (nx := 2) rfl rfl rfl rfl ?_
    refine ev_putIT f_X12_refuse (nx := 5) rfl (hI.wf.s rfl) rfl rfl rfl (hI.put0 (hI.wf.s rfl) rfl rfl) (hX.upI rfl) (fun g3 e3 hI hX => ?_)
    refine ev_ic f_X12_refuse (nx := 6) (v := -1) rfl (by decide) rfl ?_
    refine ev_retK1 f_X12_refuse rfl rfl rfl ?_
    exact ev_ret f_X12_cart rfl rfl rfl ⟨_, _, _, rfl, hI, hX, ⟨_, rfl, (by decide : ((-1):Int) ≤ ((-1):Int32).toInt), (Int.le_trans (by decide : ((-1):Int32).toInt ≤ ((-1):Int)) (by decide : ((-1):Int) ≤ 120)), (show ∀ (D : s_D), t_ME 0 gi D → t_Cb D → ((0 ≤ ar1.toInt ∧ ar1.toInt < D 2 ∧ 0 ≤ ar2.toInt ∧ ar2.toInt ≤ 2) → ((-1) : Int) = D (82 + 3 * ar1.toNatClampNeg + ar2.toNatClampNeg)) ∧ (¬ (0 ≤ ar1.toInt ∧ ar1.toInt < D 2 ∧ 0 ≤ ar2.toInt ∧ ar2.toInt ≤ 2) → ((-1) : Int) = -1) from (by
                                                            intro D hm hb
                                                            have ha : (gi 70 2).toInt = D 2 := hm.1.1.2.2
                                                            exact ⟨fun h => absurd h (by omega), fun _ => rfl⟩))⟩⟩
  · have l4 : 0 ≤ ar1.toInt := t_lel (t_nlt h1) (by decide : (0:Int) ≤ (0:Int32).toInt)
    refine ev_loc f_X12_isCart (nx := 5) rfl rfl rfl rfl ?_
    refine ev_loc f_X12_isCart (nx := 6) rfl rfl rfl rfl ?_
    refine ev_getR f_X12_isCart (nx := 9) rfl (hI.wf.s rfl) rfl rfl (hI.wf.r rfl) rfl rfl ?_
    refine ev_ic f_X12_isCart (nx := 10) (v := 2) rfl (by decide) rfl ?_
    obtain ⟨l5, u5⟩ := hI.ab (by decide +kernel : t_abr 70 2 2 0 6 = true) (Nat.le_refl _) (Nat.le_refl _)
    refine ev_ialdv f_X12_isCart (nx := 11) (w := (gi 70 2)) rfl (hI.wf.s rfl) (by decide) (rfl : (2 : Int32).toNatClampNeg = 2) (by decide) rfl rfl ?_
    refine ev_if f_X12_isCart (t1 := 18) (t2 := 14) rfl rfl rfl (fun h6 => ?_) (fun h6 => ?_)
    · have r7 : (gi 70 2).toInt ≤ ar1.toInt := Int32.le_iff_toInt_le.mp h6
      refine ev_ic f_X12_isCart (nx := 19) (v := 0) rfl (by decide) rfl ?_
      refine ev_retK1 f_X12_isCart rfl rfl rfl ?_
      refine ev_t f_X12_cart (t1 := 37) (t2 := 8) rfl rfl rfl (by decide) ?_
      refine ev_loc f_X12_cart (nx := 38) rfl rfl rfl rfl ?_
      refine ev_ic f_X12_cart (nx := 39) (v := 1) rfl (by decide) rfl ?_
      refine ev_inV2 f_X12_cart (nx := 42) (lo2 := [(0, .ref 69), (1, .int 1)]) rfl rfl rfl rfl f_X12_refuse (hI.wf.s rfl) rfl rfl rfl rfl rfl ?_
      refine ev_loc f_X12_refuse (nx := 1) rfl rfl rfl rfl ?_
      refine ev_loc f_X12_refuse (nx := 2) rfl rfl rfl rfl ?_
      refine ev_putIT f_X12_refuse (nx := 5) rfl (hI.wf.s rfl) rfl rfl rfl (hI.put0 (hI.wf.s rfl) rfl rfl) (hX.upI rfl) (fun g8 e8 hI hX => ?_)
      refine ev_ic f_X12_refuse (nx := 6) (v := -1) rfl (by decide) rfl ?_
      refine ev_retK1 f_X12_refuse rfl rfl rfl ?_
      exact ev_ret f_X12_cart rfl rfl rfl ⟨_, _, _, rfl, hI, hX, ⟨_, rfl, (by decide : ((-1):Int) ≤ ((-1):Int32).toInt), (Int.le_trans (by decide : ((-1):Int32).toInt ≤ ((-1):Int)) (by decide : ((-1):Int) ≤ 120)), (show ∀ (D : s_D), t_ME 0 gi D → t_Cb D → ((0 ≤ ar1.toInt ∧ ar1.toInt < D 2 ∧ 0 ≤ ar2.toInt ∧ ar2.toInt ≤ 2) → ((-1) : Int) = D (82 + 3 * ar1.toNatClampNeg + ar2.toNatClampNeg)) ∧ (¬ (0 ≤ ar1.toInt ∧ ar1.toInt < D 2 ∧ 0 ≤ ar2.toInt ∧ ar2.toInt ≤ 2) → ((-1) : Int) = -1) from (by
                                                            intro D hm hb
                                                            have ha : (gi 70 2).toInt = D 2 := hm.1.1.2.2
                                                            exact ⟨fun h => absurd h (by omega), fun _ => rfl⟩))⟩⟩
    · have r9 : ar1.toInt < (gi 70 2).toInt := Int32.lt_iff_toInt_lt.mp (t_nle h6)
      have u10 : ar1.toInt ≤ 5 := t_ltu (t_nle h6) u5 rfl
      have l11 : 1 ≤ (gi 70 2).toInt := t_ltl (t_nle h6) l4 rfl
      refine ev_ic f_X12_isCart (nx := 15) (v := 1) rfl (by decide) rfl ?_
      refine ev_jmp f_X12_isCart (nx := 19) rfl rfl rfl ?_
      refine ev_retK1 f_X12_isCart rfl rfl rfl ?_
      refine ev_f f_X12_cart (t1 := 37) (t2 := 8) rfl rfl rfl (by decide) ?_
      refine ev_loc f_X12_cart (nx := 9) rfl rfl rfl rfl ?_
      refine ev_if f_X12_cart (t1 := 37) (t2 := 12) rfl rfl rfl (fun h12 => ?_) (fun h12 => ?_)
      · have u13 : ar2.toInt ≤ (-1) := t_ltu h12 (by decide : (0:Int32).toInt ≤ (0:Int)) rfl
        refine ev_loc f_X12_cart (nx := 38) rfl rfl rfl rfl ?_
        refine ev_ic f_X12_cart (nx := 39) (v := 1) rfl (by decide) rfl ?_
        refine ev_inV2 f_X12_cart (nx := 42) (lo2 := [(0, .ref 69), (1, .int 1)]) rfl rfl rfl rfl f_X12_refuse (hI.wf.s rfl) rfl rfl rfl rfl rfl ?_
        refine ev_loc f_X12_refuse (nx := 1) rfl rfl rfl rfl ?_
        refine ev_loc f_X12_refuse (nx := 2) rfl rfl rfl rfl ?_
        refine ev_putIT f_X12_refuse (nx := 5) rfl (hI.wf.s rfl) rfl rfl rfl (hI.put0 (hI.wf.s rfl) rfl rfl) (hX.upI rfl) (fun g14 e14 hI hX => ?_)
        refine ev_ic f_X12_refuse (nx := 6) (v := -1) rfl (by decide) rfl ?_
        refine ev_retK1 f_X12_refuse rfl rfl rfl ?_
        exact ev_ret f_X12_cart rfl rfl rfl ⟨_, _, _, rfl, hI, hX, ⟨_, rfl, (by decide : ((-1):Int) ≤ ((-1):Int32).toInt), (Int.le_trans (by decide : ((-1):Int32).toInt ≤ ((-1):Int)) (by decide : ((-1):Int) ≤ 120)), (show ∀ (D : s_D), t_ME 0 gi D → t_Cb D → ((0 ≤ ar1.toInt ∧ ar1.toInt < D 2 ∧ 0 ≤ ar2.toInt ∧ ar2.toInt ≤ 2) → ((-1) : Int) = D (82 + 3 * ar1.toNatClampNeg + ar2.toNatClampNeg)) ∧ (¬ (0 ≤ ar1.toInt ∧ ar1.toInt < D 2 ∧ 0 ≤ ar2.toInt ∧ ar2.toInt ≤ 2) → ((-1) : Int) = -1) from (by
                                                            intro D hm hb
                                                            have ha : (gi 70 2).toInt = D 2 := hm.1.1.2.2
                                                            exact ⟨fun h => absurd h (by omega), fun _ => rfl⟩))⟩⟩
      · have l15 : 0 ≤ ar2.toInt := t_lel (t_nlt h12) (by decide : (0:Int) ≤ (0:Int32).toInt)
        refine ev_loc f_X12_cart (nx := 13) rfl rfl rfl rfl ?_
        refine ev_ic f_X12_cart (nx := 14) (v := 2) rfl (by decide) rfl ?_
        refine ev_if f_X12_cart (t1 := 37) (t2 := 17) rfl rfl rfl (fun h16 => ?_) (fun h16 => ?_)
        · have l17 : 3 ≤ ar2.toInt := t_ltl h16 (by decide : (2:Int) ≤ (2:Int32).toInt) rfl
          refine ev_loc f_X12_cart (nx := 38) rfl rfl rfl rfl ?_
          refine ev_ic f_X12_cart (nx := 39) (v := 1) rfl (by decide) rfl ?_
          refine ev_inV2 f_X12_cart (nx := 42) (lo2 := [(0, .ref 69), (1, .int 1)]) rfl rfl rfl rfl f_X12_refuse (hI.wf.s rfl) rfl rfl rfl rfl rfl ?_
          refine ev_loc f_X12_refuse (nx := 1) rfl rfl rfl rfl ?_
          refine ev_loc f_X12_refuse (nx := 2) rfl rfl rfl rfl ?_
          refine ev_putIT f_X12_refuse (nx := 5) rfl (hI.wf.s rfl) rfl rfl rfl (hI.put0 (hI.wf.s rfl) rfl rfl) (hX.upI rfl) (fun g18 e18 hI hX => ?_)
          refine ev_ic f_X12_refuse (nx := 6) (v := -1) rfl (by decide) rfl ?_
          refine ev_retK1 f_X12_refuse rfl rfl rfl ?_
          exact ev_ret f_X12_cart rfl rfl rfl ⟨_, _, _, rfl, hI, hX, ⟨_, rfl, (by decide : ((-1):Int) ≤ ((-1):Int32).toInt), (Int.le_trans (by decide : ((-1):Int32).toInt ≤ ((-1):Int)) (by decide : ((-1):Int) ≤ 120)), (show ∀ (D : s_D), t_ME 0 gi D → t_Cb D → ((0 ≤ ar1.toInt ∧ ar1.toInt < D 2 ∧ 0 ≤ ar2.toInt ∧ ar2.toInt ≤ 2) → ((-1) : Int) = D (82 + 3 * ar1.toNatClampNeg + ar2.toNatClampNeg)) ∧ (¬ (0 ≤ ar1.toInt ∧ ar1.toInt < D 2 ∧ 0 ≤ ar2.toInt ∧ ar2.toInt ≤ 2) → ((-1) : Int) = -1) from (by
                                                            intro D hm hb
                                                            have ha : (gi 70 2).toInt = D 2 := hm.1.1.2.2
                                                            exact ⟨fun h => absurd h (by omega), fun _ => rfl⟩))⟩⟩
        · have u19 : ar2.toInt ≤ 2 := t_leu (t_nlt h16) (by decide : (2:Int32).toInt ≤ (2:Int))
          refine ev_loc f_X12_cart (nx := 18) rfl rfl rfl rfl ?_
          refine ev_loc f_X12_cart (nx := 19) rfl rfl rfl rfl ?_
          refine ev_getR f_X12_cart (nx := 22) rfl (hI.wf.s rfl) rfl rfl (hI.wf.r rfl) rfl rfl ?_
          refine ev_bp f_X12_cart (nx := 24) (v := 82) rfl (by decide) rfl ?_
          refine ev_ic f_X12_cart (nx := 25) (v := 3) rfl (by decide) rfl ?_
          refine ev_loc f_X12_cart (nx := 26) rfl rfl rfl rfl ?_
          refine ev_mulL f_X12_cart (nx := 27) (c := 3) (l := 0) (u := 15) rfl (by decide) (by decide) l4 u10 rfl rfl (by decide) (by decide) rfl (fun z20 e20 l20 u20 => ?_)
          refine ev_addK f_X12_cart (nx := 28) (c := 82) (l := 82) (u := 97) rfl (by decide) l20 u20 rfl rfl (by decide) (by decide) rfl (fun z21 e21 l21 u21 => ?_)
          refine ev_loc f_X12_cart (nx := 29) rfl rfl rfl rfl ?_
          refine ev_addR f_X12_cart (nx := 30) (l := 82) (u := 99) rfl l21 u21 l15 u19 rfl rfl (by decide) (by decide) rfl (fun z22 e22 l22 u22 => ?_)
          refine ev_ialdT f_X12_cart (nx := 31) rfl (hI.wf.s rfl) l22 (by decide) u22 (by decide) rfl (fun w23 e23 => ?_)
          obtain ⟨l23, u23⟩ := hI.abi e23 (by decide +kernel : t_abr 70 82 99 0 120 = true) l22 (by decide) u22 (by decide)
          refine ev_inV2 f_X12_cart (nx := 34) (lo2 := [(0, .ref 69), (1, .int w23)]) rfl rfl rfl rfl f_X12_gives (hI.wf.s rfl) rfl rfl rfl rfl rfl ?_
          refine ev_loc f_X12_gives (nx := 1) rfl rfl rfl rfl ?_
          refine ev_ic f_X12_gives (nx := 2) (v := 0) rfl (by decide) rfl ?_
          refine ev_putIT f_X12_gives (nx := 5) rfl (hI.wf.s rfl) rfl rfl rfl (hI.put0 (hI.wf.s rfl) rfl rfl) (hX.upI rfl) (fun g24 e24 hI hX => ?_)
          refine ev_loc f_X12_gives (nx := 6) rfl rfl rfl rfl ?_
          refine ev_retK1 f_X12_gives rfl rfl rfl ?_
          refine ev_jmp f_X12_cart (nx := 42) rfl rfl rfl ?_
          exact ev_ret f_X12_cart rfl rfl rfl ⟨_, _, _, rfl, hI, hX, ⟨_, rfl, (Int.le_trans (by decide : ((-1):Int) ≤ 0) l23), u23, (show ∀ (D : s_D), t_ME 0 gi D → t_Cb D → ((0 ≤ ar1.toInt ∧ ar1.toInt < D 2 ∧ 0 ≤ ar2.toInt ∧ ar2.toInt ≤ 2) → w23.toInt = D (82 + 3 * ar1.toNatClampNeg + ar2.toNatClampNeg)) ∧ (¬ (0 ≤ ar1.toInt ∧ ar1.toInt < D 2 ∧ 0 ≤ ar2.toInt ∧ ar2.toInt ≤ 2) → w23.toInt = -1) from (by
                                                            intro D hm hb
                                                            have ha : (gi 70 2).toInt = D 2 := hm.1.1.2.2
                                                            have ka := t_clamp (i := ar1) (by omega)
                                                            have kb := t_clamp (i := ar2) (by omega)
                                                            have kc := t_clamp (i := z22) (by omega)
                                                            refine ⟨fun _ => ?_, fun h => absurd (show _ from ⟨by omega, by omega, by omega, by omega⟩) h⟩
                                                            have hd := hm.2.2.2 (82 + 3 * ar1.toNatClampNeg + ar2.toNatClampNeg) (by omega) (by omega)
                                                            rw [e23, show z22.toNatClampNeg = 0 + (82 + 3 * ar1.toNatClampNeg + ar2.toNatClampNeg) by omega]; exact hd))⟩⟩
