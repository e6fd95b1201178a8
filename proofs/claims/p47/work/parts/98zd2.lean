/-! ===== printed by riv.py: SHIPS and CARTS told ===== -/
noncomputable def wl_d_ship : List (Nat × Nat) := [(0, 0)]
noncomputable def Q_d_ship (gi : Nat → Nat → Int32) (gl : Nat → Nat → Int64) (gr : Nat → Nat → Value) (ar1 : Int32) (ar2 : Int32) : Int32 → (Nat → Nat → Int32) → (Nat → Nat → Int64) → (Nat → Nat → Value) → Prop := fun (v : Int32) (gi2 : Nat → Nat → Int32) (gl2 : Nat → Nat → Int64) (gr2 : Nat → Nat → Value) => ∀ (u : Nat) (D : s_D), gr 0 6 = .ref u → t_VL gr u → t_CV gi gl u D → t_Cb D → (∀ s : Nat, (s : Int) < D 1 → 0 ≤ D (56 + 5 * s) ∧ D (56 + 5 * s) ≤ 1) → ((0 ≤ ar1.toInt ∧ ar1.toInt < D 1 ∧ 0 ≤ ar2.toInt ∧ ar2.toInt ≤ 4) → v.toInt = D (52 + 5 * ar1.toNatClampNeg + ar2.toNatClampNeg)) ∧ (¬ (0 ≤ ar1.toInt ∧ ar1.toInt < D 1 ∧ 0 ≤ ar2.toInt ∧ ar2.toInt ≤ 4) → v.toInt = -1)
theorem c_d_ship {X : x_Ext} {d : Nat} {sh : List (Nat ⊕ (Nat × Nat))} {gi : Nat → Nat → Int32} {gl : Nat → Nat → Int64} {gr : Nat → Nat → Value} (hI : t_I sh gi gr) (ar1 : Int32) (ar2 : Int32) : x_Me X (d + 2) n_X11_ship [.ref 0, .int ar1, .int ar2] (sh, gi, gl, gr) (t_PI wl_d_ship sh gi gl gr (-2147483648) 2147483647 (Q_d_ship gi gl gr ar1 ar2)) := by
  have hX : t_X wl_d_ship sh gi gl gr gi gl gr := t_X.rf
  refine me_i f_X11_ship (hI.wf.s rfl) rfl rfl rfl ?_
  refine ev_loc f_X11_ship (nx := 1) rfl rfl rfl rfl ?_
  refine ev_loc f_X11_ship (nx := 2) rfl rfl rfl rfl ?_
  refine ev_inV2 f_X11_ship (nx := 5) (lo2 := [(0, .ref 0), (1, .int ar1)]) rfl rfl rfl rfl f_X11_isShip (hI.wf.s rfl) rfl rfl rfl rfl rfl ?_
  refine ev_loc f_X11_isShip (nx := 1) rfl rfl rfl rfl ?_
  refine ev_if f_X11_isShip (t1 := 22) (t2 := 4) rfl rfl rfl (fun h1 => ?_) (fun h1 => ?_)
  · have u2 : ar1.toInt ≤ (-1) := t_ltu h1 (by decide : (0:Int32).toInt ≤ (0:Int)) rfl
    refine ev_ic f_X11_isShip (nx := 23) (v := 0) rfl (by decide) rfl ?_
    refine ev_retK1 f_X11_isShip rfl rfl rfl ?_
    refine ev_t f_X11_ship (t1 := 8) (t2 := 14) rfl rfl rfl (by decide) ?_
    refine ev_loc f_X11_ship (nx := 9) rfl rfl rfl rfl ?_
    refine ev_ic f_X11_ship (nx := 10) (v := 1) rfl (by decide) rfl ?_
    refine ev_inV2 f_X11_ship (nx := 13) (lo2 := [(0, .ref 0), (1, .int 1)]) rfl rfl rfl rfl f_X11_refuse (hI.wf.s rfl) rfl rfl rfl rfl rfl ?_
    refine ev_loc f_X11_refuse (nx := 1) rfl rfl rfl rfl ?_
    refine ev_loc f_X11_refuse (nx := 2) rfl rfl rfl rfl ?_
    refine ev_putIT f_X11_refuse (nx := 5) rfl (hI.wf.s rfl) rfl rfl rfl (hI.put0 (hI.wf.s rfl) rfl rfl) (hX.upI rfl) (fun g3 e3 hI hX => ?_)
    refine ev_ic f_X11_refuse (nx := 6) (v := -1) rfl (by decide) rfl ?_
    refine ev_retK1 f_X11_refuse rfl rfl rfl ?_
    exact ev_ret f_X11_ship rfl rfl rfl ⟨_, _, _, rfl, hI, hX, ⟨_, rfl, (Int.le_trans (by decide : ((-2147483648):Int) ≤ (-1)) (by decide : ((-1):Int) ≤ ((-1):Int32).toInt)), (Int.le_trans (by decide : ((-1):Int32).toInt ≤ ((-1):Int)) (by decide : ((-1):Int) ≤ 2147483647)), (show ∀ (u : Nat) (D : s_D), gr 0 6 = .ref u → t_VL gr u → t_CV gi gl u D → t_Cb D → (∀ s : Nat, (s : Int) < D 1 → 0 ≤ D (56 + 5 * s) ∧ D (56 + 5 * s) ≤ 1) → ((0 ≤ ar1.toInt ∧ ar1.toInt < D 1 ∧ 0 ≤ ar2.toInt ∧ ar2.toInt ≤ 4) → ((-1) : Int) = D (52 + 5 * ar1.toNatClampNeg + ar2.toNatClampNeg)) ∧ (¬ (0 ≤ ar1.toInt ∧ ar1.toInt < D 1 ∧ 0 ≤ ar2.toInt ∧ ar2.toInt ≤ 4) → ((-1) : Int) = -1) from (by
                                                            intro u D hu hl hc hb h1
                                                            have hm := hc.2.2.1.1
                                                            exact ⟨fun h => absurd h (by omega), fun _ => rfl⟩))⟩⟩
  · have l4 : 0 ≤ ar1.toInt := t_lel (t_nlt h1) (by decide : (0:Int) ≤ (0:Int32).toInt)
    refine ev_loc f_X11_isShip (nx := 5) rfl rfl rfl rfl ?_
    refine ev_loc f_X11_isShip (nx := 6) rfl rfl rfl rfl ?_
    obtain ⟨a5, e5, p5⟩ := hI.2.2.2.1.1
    refine ev_getR f_X11_isShip (nx := 9) rfl (hI.wf.s rfl) rfl rfl e5 rfl rfl ?_
    obtain ⟨a6, e6, p6⟩ := p5.2.2.2.2.1
    refine ev_getR f_X11_isShip (nx := 12) rfl p5.1 rfl rfl e6 rfl rfl ?_
    refine ev_getI f_X11_isShip (nx := 15) rfl p6.1 rfl rfl rfl ?_
    obtain ⟨l7, u7⟩ := hI.b p6.1 (t_bdK rfl : t_bd 3 0 = some (0, 6))
    refine ev_if f_X11_isShip (t1 := 22) (t2 := 18) rfl rfl rfl (fun h8 => ?_) (fun h8 => ?_)
    · have r9 : (gi a6 0).toInt ≤ ar1.toInt := Int32.le_iff_toInt_le.mp h8
      refine ev_ic f_X11_isShip (nx := 23) (v := 0) rfl (by decide) rfl ?_
      refine ev_retK1 f_X11_isShip rfl rfl rfl ?_
      refine ev_t f_X11_ship (t1 := 8) (t2 := 14) rfl rfl rfl (by decide) ?_
      refine ev_loc f_X11_ship (nx := 9) rfl rfl rfl rfl ?_
      refine ev_ic f_X11_ship (nx := 10) (v := 1) rfl (by decide) rfl ?_
      refine ev_inV2 f_X11_ship (nx := 13) (lo2 := [(0, .ref 0), (1, .int 1)]) rfl rfl rfl rfl f_X11_refuse (hI.wf.s rfl) rfl rfl rfl rfl rfl ?_
      refine ev_loc f_X11_refuse (nx := 1) rfl rfl rfl rfl ?_
      refine ev_loc f_X11_refuse (nx := 2) rfl rfl rfl rfl ?_
      refine ev_putIT f_X11_refuse (nx := 5) rfl (hI.wf.s rfl) rfl rfl rfl (hI.put0 (hI.wf.s rfl) rfl rfl) (hX.upI rfl) (fun g10 e10 hI hX => ?_)
      refine ev_ic f_X11_refuse (nx := 6) (v := -1) rfl (by decide) rfl ?_
      refine ev_retK1 f_X11_refuse rfl rfl rfl ?_
      exact ev_ret f_X11_ship rfl rfl rfl ⟨_, _, _, rfl, hI, hX, ⟨_, rfl, (Int.le_trans (by decide : ((-2147483648):Int) ≤ (-1)) (by decide : ((-1):Int) ≤ ((-1):Int32).toInt)), (Int.le_trans (by decide : ((-1):Int32).toInt ≤ ((-1):Int)) (by decide : ((-1):Int) ≤ 2147483647)), (show ∀ (u : Nat) (D : s_D), gr 0 6 = .ref u → t_VL gr u → t_CV gi gl u D → t_Cb D → (∀ s : Nat, (s : Int) < D 1 → 0 ≤ D (56 + 5 * s) ∧ D (56 + 5 * s) ≤ 1) → ((0 ≤ ar1.toInt ∧ ar1.toInt < D 1 ∧ 0 ≤ ar2.toInt ∧ ar2.toInt ≤ 4) → ((-1) : Int) = D (52 + 5 * ar1.toNatClampNeg + ar2.toNatClampNeg)) ∧ (¬ (0 ≤ ar1.toInt ∧ ar1.toInt < D 1 ∧ 0 ≤ ar2.toInt ∧ ar2.toInt ≤ 4) → ((-1) : Int) = -1) from (by
                                                            intro u D hu hl hc hb h1
                                                            have ha : a5 = u := Value.ref.inj (e5.symm.trans hu)
                                                            subst ha
                                                            have hb1 : (a5 + 3) = a6 := Value.ref.inj ((hl.1.2.2.2.1).symm.trans e6)
                                                            subst hb1
                                                            have hm := hc.2.2.1.1
                                                            exact ⟨fun h => absurd h (by omega), fun _ => rfl⟩))⟩⟩
    · have r11 : ar1.toInt < (gi a6 0).toInt := Int32.lt_iff_toInt_lt.mp (t_nle h8)
      have u12 : ar1.toInt ≤ 5 := t_ltu (t_nle h8) u7 rfl
      have l13 : 1 ≤ (gi a6 0).toInt := t_ltl (t_nle h8) l4 rfl
      refine ev_ic f_X11_isShip (nx := 19) (v := 1) rfl (by decide) rfl ?_
      refine ev_jmp f_X11_isShip (nx := 23) rfl rfl rfl ?_
      refine ev_retK1 f_X11_isShip rfl rfl rfl ?_
      refine ev_f f_X11_ship (t1 := 8) (t2 := 14) rfl rfl rfl (by decide) ?_
      refine ev_loc f_X11_ship (nx := 15) rfl rfl rfl rfl ?_
      have h14 : ar2.toInt = 0 ∨ ar2.toInt = 1 ∨ ar2.toInt = 2 ∨ ar2.toInt = 3 ∨ ar2.toInt = 4 ∨ (ar2.toInt ≠ 0 ∧ ar2.toInt ≠ 1 ∧ ar2.toInt ≠ 2 ∧ ar2.toInt ≠ 3 ∧ ar2.toInt ≠ 4) := by have := (t_lo ar2); have := (t_hi ar2); omega
      rcases h14 with h14 | h14 | h14 | h14 | h14 | h14
      · refine ev_swt f_X11_ship (nx := 48) (c := 0) rfl h14 rfl ?_
        refine ev_loc f_X11_ship (nx := 49) rfl rfl rfl rfl ?_
        refine ev_loc f_X11_ship (nx := 50) rfl rfl rfl rfl ?_
        refine ev_getR f_X11_ship (nx := 53) (v := .ref a5) rfl (hI.wf.s rfl) rfl rfl e5 rfl rfl ?_
        obtain ⟨a15, e15, s15, o15⟩ := p5.2.2.2.1
        refine ev_getR f_X11_ship (nx := 56) rfl p5.1 rfl rfl e15 rfl rfl ?_
        refine ev_loc f_X11_ship (nx := 57) rfl rfl rfl rfl ?_
        refine ev_ialdT f_X11_ship (nx := 58) rfl s15 l4 (by decide) u12 (by decide) rfl (fun w16 e16 => ?_)
        refine ev_inV2 f_X11_ship (nx := 61) (lo2 := [(0, .ref 0), (1, .int w16)]) rfl rfl rfl rfl f_X11_answer (hI.wf.s rfl) rfl rfl rfl rfl rfl ?_
        refine ev_loc f_X11_answer (nx := 1) rfl rfl rfl rfl ?_
        refine ev_ic f_X11_answer (nx := 2) (v := 0) rfl (by decide) rfl ?_
        refine ev_putIT f_X11_answer (nx := 5) rfl (hI.wf.s rfl) rfl rfl rfl (hI.put0 (hI.wf.s rfl) rfl rfl) (hX.upI rfl) (fun g17 e17 hI hX => ?_)
        refine ev_loc f_X11_answer (nx := 6) rfl rfl rfl rfl ?_
        refine ev_retK1 f_X11_answer rfl rfl rfl ?_
        exact ev_ret f_X11_ship rfl rfl rfl ⟨_, _, _, rfl, hI, hX, ⟨_, rfl, (t_lo w16), (t_hi w16), (show ∀ (u : Nat) (D : s_D), gr 0 6 = .ref u → t_VL gr u → t_CV gi gl u D → t_Cb D → (∀ s : Nat, (s : Int) < D 1 → 0 ≤ D (56 + 5 * s) ∧ D (56 + 5 * s) ≤ 1) → ((0 ≤ ar1.toInt ∧ ar1.toInt < D 1 ∧ 0 ≤ ar2.toInt ∧ ar2.toInt ≤ 4) → w16.toInt = D (52 + 5 * ar1.toNatClampNeg + ar2.toNatClampNeg)) ∧ (¬ (0 ≤ ar1.toInt ∧ ar1.toInt < D 1 ∧ 0 ≤ ar2.toInt ∧ ar2.toInt ≤ 4) → w16.toInt = -1) from (by
                                                            intro u D hu hl hc hb h1
                                                            have ha : a5 = u := Value.ref.inj (e5.symm.trans hu)
                                                            subst ha
                                                            have hb1 : (a5 + 3) = a6 := Value.ref.inj ((hl.1.2.2.2.1).symm.trans e6)
                                                            subst hb1
                                                            have hb2 : (a5 + 9) = a15 := Value.ref.inj ((hl.1.2.2.1).symm.trans e15)
                                                            subst hb2
                                                            have hm := hc.2.2.1.1
                                                            have ka := t_clamp (i := ar1) (by omega)
                                                            have kb := t_clamp (i := ar2) (by omega)
                                                            have hs := hc.2.2.1.2 ar1.toNatClampNeg (by omega)
                                                            refine ⟨fun _ => ?_, fun h => absurd (show _ from ⟨by omega, by omega, by omega, by omega⟩) h⟩
                                                            rw [show 52 + 5 * ar1.toNatClampNeg + ar2.toNatClampNeg = 52 + 5 * ar1.toNatClampNeg by omega]
                                                            rw [e16]; exact hs.1))⟩⟩
      · refine ev_swt f_X11_ship (nx := 62) (c := 1) rfl h14 rfl ?_
        refine ev_loc f_X11_ship (nx := 63) rfl rfl rfl rfl ?_
        refine ev_loc f_X11_ship (nx := 64) rfl rfl rfl rfl ?_
        refine ev_getR f_X11_ship (nx := 67) (v := .ref a5) rfl (hI.wf.s rfl) rfl rfl e5 rfl rfl ?_
        refine ev_getR f_X11_ship (nx := 70) (v := .ref a6) rfl p5.1 rfl rfl e6 rfl rfl ?_
        obtain ⟨a18, e18, s18, o18⟩ := p6.2.2.1
        refine ev_getR f_X11_ship (nx := 73) rfl p6.1 rfl rfl e18 rfl rfl ?_
        refine ev_loc f_X11_ship (nx := 74) rfl rfl rfl rfl ?_
        refine ev_ialdT f_X11_ship (nx := 75) rfl s18 l4 (by decide) u12 (by decide) rfl (fun w19 e19 => ?_)
        refine ev_inV2 f_X11_ship (nx := 78) (lo2 := [(0, .ref 0), (1, .int w19)]) rfl rfl rfl rfl f_X11_answer (hI.wf.s rfl) rfl rfl rfl rfl rfl ?_
        refine ev_loc f_X11_answer (nx := 1) rfl rfl rfl rfl ?_
        refine ev_ic f_X11_answer (nx := 2) (v := 0) rfl (by decide) rfl ?_
        refine ev_putIT f_X11_answer (nx := 5) rfl (hI.wf.s rfl) rfl rfl rfl (hI.put0 (hI.wf.s rfl) rfl rfl) (hX.upI rfl) (fun g20 e20 hI hX => ?_)
        refine ev_loc f_X11_answer (nx := 6) rfl rfl rfl rfl ?_
        refine ev_retK1 f_X11_answer rfl rfl rfl ?_
        exact ev_ret f_X11_ship rfl rfl rfl ⟨_, _, _, rfl, hI, hX, ⟨_, rfl, (t_lo w19), (t_hi w19), (show ∀ (u : Nat) (D : s_D), gr 0 6 = .ref u → t_VL gr u → t_CV gi gl u D → t_Cb D → (∀ s : Nat, (s : Int) < D 1 → 0 ≤ D (56 + 5 * s) ∧ D (56 + 5 * s) ≤ 1) → ((0 ≤ ar1.toInt ∧ ar1.toInt < D 1 ∧ 0 ≤ ar2.toInt ∧ ar2.toInt ≤ 4) → w19.toInt = D (52 + 5 * ar1.toNatClampNeg + ar2.toNatClampNeg)) ∧ (¬ (0 ≤ ar1.toInt ∧ ar1.toInt < D 1 ∧ 0 ≤ ar2.toInt ∧ ar2.toInt ≤ 4) → w19.toInt = -1) from (by
                                                            intro u D hu hl hc hb h1
                                                            have ha : a5 = u := Value.ref.inj (e5.symm.trans hu)
                                                            subst ha
                                                            have hb1 : (a5 + 3) = a6 := Value.ref.inj ((hl.1.2.2.2.1).symm.trans e6)
                                                            subst hb1
                                                            have hb2 : (a5 + 3 + 2) = a18 := Value.ref.inj ((hl.2.1.2.1).symm.trans e18)
                                                            subst hb2
                                                            have hm := hc.2.2.1.1
                                                            have ka := t_clamp (i := ar1) (by omega)
                                                            have kb := t_clamp (i := ar2) (by omega)
                                                            have hs := hc.2.2.1.2 ar1.toNatClampNeg (by omega)
                                                            refine ⟨fun _ => ?_, fun h => absurd (show _ from ⟨by omega, by omega, by omega, by omega⟩) h⟩
                                                            rw [show 52 + 5 * ar1.toNatClampNeg + ar2.toNatClampNeg = 53 + 5 * ar1.toNatClampNeg by omega]
                                                            rw [e19]; exact hs.2.1))⟩⟩
      · refine ev_swt f_X11_ship (nx := 79) (c := 2) rfl h14 rfl ?_
        refine ev_loc f_X11_ship (nx := 80) rfl rfl rfl rfl ?_
        refine ev_loc f_X11_ship (nx := 81) rfl rfl rfl rfl ?_
        refine ev_getR f_X11_ship (nx := 84) (v := .ref a5) rfl (hI.wf.s rfl) rfl rfl e5 rfl rfl ?_
        refine ev_getR f_X11_ship (nx := 87) (v := .ref a6) rfl p5.1 rfl rfl e6 rfl rfl ?_
        obtain ⟨a21, e21, s21, o21⟩ := p6.2.2.2.1
        refine ev_getR f_X11_ship (nx := 90) rfl p6.1 rfl rfl e21 rfl rfl ?_
        refine ev_loc f_X11_ship (nx := 91) rfl rfl rfl rfl ?_
        refine ev_ialdT f_X11_ship (nx := 92) rfl s21 l4 (by decide) u12 (by decide) rfl (fun w22 e22 => ?_)
        refine ev_inV2 f_X11_ship (nx := 95) (lo2 := [(0, .ref 0), (1, .int w22)]) rfl rfl rfl rfl f_X11_answer (hI.wf.s rfl) rfl rfl rfl rfl rfl ?_
        refine ev_loc f_X11_answer (nx := 1) rfl rfl rfl rfl ?_
        refine ev_ic f_X11_answer (nx := 2) (v := 0) rfl (by decide) rfl ?_
        refine ev_putIT f_X11_answer (nx := 5) rfl (hI.wf.s rfl) rfl rfl rfl (hI.put0 (hI.wf.s rfl) rfl rfl) (hX.upI rfl) (fun g23 e23 hI hX => ?_)
        refine ev_loc f_X11_answer (nx := 6) rfl rfl rfl rfl ?_
        refine ev_retK1 f_X11_answer rfl rfl rfl ?_
        exact ev_ret f_X11_ship rfl rfl rfl ⟨_, _, _, rfl, hI, hX, ⟨_, rfl, (t_lo w22), (t_hi w22), (show ∀ (u : Nat) (D : s_D), gr 0 6 = .ref u → t_VL gr u → t_CV gi gl u D → t_Cb D → (∀ s : Nat, (s : Int) < D 1 → 0 ≤ D (56 + 5 * s) ∧ D (56 + 5 * s) ≤ 1) → ((0 ≤ ar1.toInt ∧ ar1.toInt < D 1 ∧ 0 ≤ ar2.toInt ∧ ar2.toInt ≤ 4) → w22.toInt = D (52 + 5 * ar1.toNatClampNeg + ar2.toNatClampNeg)) ∧ (¬ (0 ≤ ar1.toInt ∧ ar1.toInt < D 1 ∧ 0 ≤ ar2.toInt ∧ ar2.toInt ≤ 4) → w22.toInt = -1) from (by
                                                            intro u D hu hl hc hb h1
                                                            have ha : a5 = u := Value.ref.inj (e5.symm.trans hu)
                                                            subst ha
                                                            have hb1 : (a5 + 3) = a6 := Value.ref.inj ((hl.1.2.2.2.1).symm.trans e6)
                                                            subst hb1
                                                            have hb2 : (a5 + 3 + 3) = a21 := Value.ref.inj ((hl.2.1.2.2.1).symm.trans e21)
                                                            subst hb2
                                                            have hm := hc.2.2.1.1
                                                            have ka := t_clamp (i := ar1) (by omega)
                                                            have kb := t_clamp (i := ar2) (by omega)
                                                            have hs := hc.2.2.1.2 ar1.toNatClampNeg (by omega)
                                                            refine ⟨fun _ => ?_, fun h => absurd (show _ from ⟨by omega, by omega, by omega, by omega⟩) h⟩
                                                            rw [show 52 + 5 * ar1.toNatClampNeg + ar2.toNatClampNeg = 54 + 5 * ar1.toNatClampNeg by omega]
                                                            rw [e22]; exact hs.2.2.1))⟩⟩
      · refine ev_swt f_X11_ship (nx := 96) (c := 3) rfl h14 rfl ?_
        refine ev_loc f_X11_ship (nx := 97) rfl rfl rfl rfl ?_
        refine ev_loc f_X11_ship (nx := 98) rfl rfl rfl rfl ?_
        refine ev_getR f_X11_ship (nx := 101) (v := .ref a5) rfl (hI.wf.s rfl) rfl rfl e5 rfl rfl ?_
        refine ev_getR f_X11_ship (nx := 104) (v := .ref a6) rfl p5.1 rfl rfl e6 rfl rfl ?_
        obtain ⟨a24, e24, s24, o24⟩ := p6.2.2.2.2.1
        refine ev_getR f_X11_ship (nx := 107) rfl p6.1 rfl rfl e24 rfl rfl ?_
        refine ev_loc f_X11_ship (nx := 108) rfl rfl rfl rfl ?_
        refine ev_ialdT f_X11_ship (nx := 109) rfl s24 l4 (by decide) u12 (by decide) rfl (fun w25 e25 => ?_)
        refine ev_inV2 f_X11_ship (nx := 112) (lo2 := [(0, .ref 0), (1, .int w25)]) rfl rfl rfl rfl f_X11_answer (hI.wf.s rfl) rfl rfl rfl rfl rfl ?_
        refine ev_loc f_X11_answer (nx := 1) rfl rfl rfl rfl ?_
        refine ev_ic f_X11_answer (nx := 2) (v := 0) rfl (by decide) rfl ?_
        refine ev_putIT f_X11_answer (nx := 5) rfl (hI.wf.s rfl) rfl rfl rfl (hI.put0 (hI.wf.s rfl) rfl rfl) (hX.upI rfl) (fun g26 e26 hI hX => ?_)
        refine ev_loc f_X11_answer (nx := 6) rfl rfl rfl rfl ?_
        refine ev_retK1 f_X11_answer rfl rfl rfl ?_
        exact ev_ret f_X11_ship rfl rfl rfl ⟨_, _, _, rfl, hI, hX, ⟨_, rfl, (t_lo w25), (t_hi w25), (show ∀ (u : Nat) (D : s_D), gr 0 6 = .ref u → t_VL gr u → t_CV gi gl u D → t_Cb D → (∀ s : Nat, (s : Int) < D 1 → 0 ≤ D (56 + 5 * s) ∧ D (56 + 5 * s) ≤ 1) → ((0 ≤ ar1.toInt ∧ ar1.toInt < D 1 ∧ 0 ≤ ar2.toInt ∧ ar2.toInt ≤ 4) → w25.toInt = D (52 + 5 * ar1.toNatClampNeg + ar2.toNatClampNeg)) ∧ (¬ (0 ≤ ar1.toInt ∧ ar1.toInt < D 1 ∧ 0 ≤ ar2.toInt ∧ ar2.toInt ≤ 4) → w25.toInt = -1) from (by
                                                            intro u D hu hl hc hb h1
                                                            have ha : a5 = u := Value.ref.inj (e5.symm.trans hu)
                                                            subst ha
                                                            have hb1 : (a5 + 3) = a6 := Value.ref.inj ((hl.1.2.2.2.1).symm.trans e6)
                                                            subst hb1
                                                            have hb2 : (a5 + 3 + 4) = a24 := Value.ref.inj ((hl.2.1.2.2.2.1).symm.trans e24)
                                                            subst hb2
                                                            have hm := hc.2.2.1.1
                                                            have ka := t_clamp (i := ar1) (by omega)
                                                            have kb := t_clamp (i := ar2) (by omega)
                                                            have hs := hc.2.2.1.2 ar1.toNatClampNeg (by omega)
                                                            refine ⟨fun _ => ?_, fun h => absurd (show _ from ⟨by omega, by omega, by omega, by omega⟩) h⟩
                                                            rw [show 52 + 5 * ar1.toNatClampNeg + ar2.toNatClampNeg = 55 + 5 * ar1.toNatClampNeg by omega]
                                                            rw [e25]; exact hs.2.2.2.1))⟩⟩
      · refine ev_swt f_X11_ship (nx := 113) (c := 4) rfl h14 rfl ?_
        refine ev_loc f_X11_ship (nx := 114) rfl rfl rfl rfl ?_
        refine ev_loc f_X11_ship (nx := 115) rfl rfl rfl rfl ?_
        refine ev_getR f_X11_ship (nx := 118) (v := .ref a5) rfl (hI.wf.s rfl) rfl rfl e5 rfl rfl ?_
        refine ev_getR f_X11_ship (nx := 121) (v := .ref a6) rfl p5.1 rfl rfl e6 rfl rfl ?_
        obtain ⟨a27, e27, s27, o27⟩ := p6.2.2.2.2.2
        refine ev_getR f_X11_ship (nx := 124) rfl p6.1 rfl rfl e27 rfl rfl ?_
        refine ev_loc f_X11_ship (nx := 125) rfl rfl rfl rfl ?_
        refine ev_baldT f_X11_ship (nx := 126) rfl s27 rfl l4 (by decide) u12 (by decide) rfl (fun w28 e28 => ?_)
        refine ev_if f_X11_ship (t1 := 133) (t2 := 129) rfl rfl rfl (fun h29 => ?_) (fun h29 => ?_)
        · have u30 : w28.toInt ≤ 0 := t_equ h29 (by decide : (0:Int32).toInt ≤ (0:Int))
          have l31 : 0 ≤ w28.toInt := t_eql h29 (by decide : (0:Int) ≤ (0:Int32).toInt)
          refine ev_ic f_X11_ship (nx := 134) (v := 0) rfl (by decide) rfl ?_
          refine ev_inV2 f_X11_ship (nx := 137) (lo2 := [(0, .ref 0), (1, .int 0)]) rfl rfl rfl rfl f_X11_answer (hI.wf.s rfl) rfl rfl rfl rfl rfl ?_
          refine ev_loc f_X11_answer (nx := 1) rfl rfl rfl rfl ?_
          refine ev_ic f_X11_answer (nx := 2) (v := 0) rfl (by decide) rfl ?_
          refine ev_putIT f_X11_answer (nx := 5) rfl (hI.wf.s rfl) rfl rfl rfl (hI.put0 (hI.wf.s rfl) rfl rfl) (hX.upI rfl) (fun g32 e32 hI hX => ?_)
          refine ev_loc f_X11_answer (nx := 6) rfl rfl rfl rfl ?_
          refine ev_retK1 f_X11_answer rfl rfl rfl ?_
          exact ev_ret f_X11_ship rfl rfl rfl ⟨_, _, _, rfl, hI, hX, ⟨_, rfl, (Int.le_trans (by decide : ((-2147483648):Int) ≤ 0) (by decide : (0:Int) ≤ (0:Int32).toInt)), (Int.le_trans (by decide : (0:Int32).toInt ≤ (0:Int)) (by decide : (0:Int) ≤ 2147483647)), (show ∀ (u : Nat) (D : s_D), gr 0 6 = .ref u → t_VL gr u → t_CV gi gl u D → t_Cb D → (∀ s : Nat, (s : Int) < D 1 → 0 ≤ D (56 + 5 * s) ∧ D (56 + 5 * s) ≤ 1) → ((0 ≤ ar1.toInt ∧ ar1.toInt < D 1 ∧ 0 ≤ ar2.toInt ∧ ar2.toInt ≤ 4) → (0 : Int) = D (52 + 5 * ar1.toNatClampNeg + ar2.toNatClampNeg)) ∧ (¬ (0 ≤ ar1.toInt ∧ ar1.toInt < D 1 ∧ 0 ≤ ar2.toInt ∧ ar2.toInt ≤ 4) → (0 : Int) = -1) from (by
                                                            intro u D hu hl hc hb h1
                                                            have ha : a5 = u := Value.ref.inj (e5.symm.trans hu)
                                                            subst ha
                                                            have hb1 : (a5 + 3) = a6 := Value.ref.inj ((hl.1.2.2.2.1).symm.trans e6)
                                                            subst hb1
                                                            have hb2 : (a5 + 3 + 5) = a27 := Value.ref.inj ((hl.2.1.2.2.2.2).symm.trans e27)
                                                            subst hb2
                                                            have hm := hc.2.2.1.1
                                                            have ka := t_clamp (i := ar1) (by omega)
                                                            have kb := t_clamp (i := ar2) (by omega)
                                                            have hs := hc.2.2.1.2 ar1.toNatClampNeg (by omega)
                                                            refine ⟨fun _ => ?_, fun h => absurd (show _ from ⟨by omega, by omega, by omega, by omega⟩) h⟩
                                                            rw [show 52 + 5 * ar1.toNatClampNeg + ar2.toNatClampNeg = 56 + 5 * ar1.toNatClampNeg by omega]
                                                            have hw : w28.toInt = D (56 + 5 * ar1.toNatClampNeg) := by rw [e28]; exact hs.2.2.2.2
                                                            have h2 := h1 ar1.toNatClampNeg (by omega)
                                                            rw [← hw] at h2 ⊢
                                                            have k1 : (1 : Int32).toInt = 1 := rfl
                                                            have k0 : (0 : Int32).toInt = 0 := rfl
                                                            omega))⟩⟩
        · have r33 : w28.toInt ≠ 0 := fun e => h29 (Int32.toInt_inj.mp (e.trans (by decide : (0:Int) = (0 : Int32).toInt)))
          refine ev_ic f_X11_ship (nx := 130) (v := 1) rfl (by decide) rfl ?_
          refine ev_jmp f_X11_ship (nx := 134) rfl rfl rfl ?_
          refine ev_inV2 f_X11_ship (nx := 137) (lo2 := [(0, .ref 0), (1, .int 1)]) rfl rfl rfl rfl f_X11_answer (hI.wf.s rfl) rfl rfl rfl rfl rfl ?_
          refine ev_loc f_X11_answer (nx := 1) rfl rfl rfl rfl ?_
          refine ev_ic f_X11_answer (nx := 2) (v := 0) rfl (by decide) rfl ?_
          refine ev_putIT f_X11_answer (nx := 5) rfl (hI.wf.s rfl) rfl rfl rfl (hI.put0 (hI.wf.s rfl) rfl rfl) (hX.upI rfl) (fun g34 e34 hI hX => ?_)
          refine ev_loc f_X11_answer (nx := 6) rfl rfl rfl rfl ?_
          refine ev_retK1 f_X11_answer rfl rfl rfl ?_
          exact ev_ret f_X11_ship rfl rfl rfl ⟨_, _, _, rfl, hI, hX, ⟨_, rfl, (Int.le_trans (by decide : ((-2147483648):Int) ≤ 1) (by decide : (1:Int) ≤ (1:Int32).toInt)), (Int.le_trans (by decide : (1:Int32).toInt ≤ (1:Int)) (by decide : (1:Int) ≤ 2147483647)), (show ∀ (u : Nat) (D : s_D), gr 0 6 = .ref u → t_VL gr u → t_CV gi gl u D → t_Cb D → (∀ s : Nat, (s : Int) < D 1 → 0 ≤ D (56 + 5 * s) ∧ D (56 + 5 * s) ≤ 1) → ((0 ≤ ar1.toInt ∧ ar1.toInt < D 1 ∧ 0 ≤ ar2.toInt ∧ ar2.toInt ≤ 4) → (1 : Int) = D (52 + 5 * ar1.toNatClampNeg + ar2.toNatClampNeg)) ∧ (¬ (0 ≤ ar1.toInt ∧ ar1.toInt < D 1 ∧ 0 ≤ ar2.toInt ∧ ar2.toInt ≤ 4) → (1 : Int) = -1) from (by
                                                            intro u D hu hl hc hb h1
                                                            have ha : a5 = u := Value.ref.inj (e5.symm.trans hu)
                                                            subst ha
                                                            have hb1 : (a5 + 3) = a6 := Value.ref.inj ((hl.1.2.2.2.1).symm.trans e6)
                                                            subst hb1
                                                            have hb2 : (a5 + 3 + 5) = a27 := Value.ref.inj ((hl.2.1.2.2.2.2).symm.trans e27)
                                                            subst hb2
                                                            have hm := hc.2.2.1.1
                                                            have ka := t_clamp (i := ar1) (by omega)
                                                            have kb := t_clamp (i := ar2) (by omega)
                                                            have hs := hc.2.2.1.2 ar1.toNatClampNeg (by omega)
                                                            refine ⟨fun _ => ?_, fun h => absurd (show _ from ⟨by omega, by omega, by omega, by omega⟩) h⟩
                                                            rw [show 52 + 5 * ar1.toNatClampNeg + ar2.toNatClampNeg = 56 + 5 * ar1.toNatClampNeg by omega]
                                                            have hw : w28.toInt = D (56 + 5 * ar1.toNatClampNeg) := by rw [e28]; exact hs.2.2.2.2
                                                            have h2 := h1 ar1.toNatClampNeg (by omega)
                                                            rw [← hw] at h2 ⊢
                                                            have k1 : (1 : Int32).toInt = 1 := rfl
                                                            have k0 : (0 : Int32).toInt = 0 := rfl
                                                            omega))⟩⟩
      · refine ev_swtd f_X11_ship (nx := 138) rfl (by omega) (by decide) rfl ?_
        refine ev_loc f_X11_ship (nx := 139) rfl rfl rfl rfl ?_
        refine ev_ic f_X11_ship (nx := 140) (v := 1) rfl (by decide) rfl ?_
        refine ev_inV2 f_X11_ship (nx := 143) (lo2 := [(0, .ref 0), (1, .int 1)]) rfl rfl rfl rfl f_X11_refuse (hI.wf.s rfl) rfl rfl rfl rfl rfl ?_
        refine ev_loc f_X11_refuse (nx := 1) rfl rfl rfl rfl ?_
        refine ev_loc f_X11_refuse (nx := 2) rfl rfl rfl rfl ?_
        refine ev_putIT f_X11_refuse (nx := 5) rfl (hI.wf.s rfl) rfl rfl rfl (hI.put0 (hI.wf.s rfl) rfl rfl) (hX.upI rfl) (fun g35 e35 hI hX => ?_)
        refine ev_ic f_X11_refuse (nx := 6) (v := -1) rfl (by decide) rfl ?_
        refine ev_retK1 f_X11_refuse rfl rfl rfl ?_
        exact ev_ret f_X11_ship rfl rfl rfl ⟨_, _, _, rfl, hI, hX, ⟨_, rfl, (Int.le_trans (by decide : ((-2147483648):Int) ≤ (-1)) (by decide : ((-1):Int) ≤ ((-1):Int32).toInt)), (Int.le_trans (by decide : ((-1):Int32).toInt ≤ ((-1):Int)) (by decide : ((-1):Int) ≤ 2147483647)), (show ∀ (u : Nat) (D : s_D), gr 0 6 = .ref u → t_VL gr u → t_CV gi gl u D → t_Cb D → (∀ s : Nat, (s : Int) < D 1 → 0 ≤ D (56 + 5 * s) ∧ D (56 + 5 * s) ≤ 1) → ((0 ≤ ar1.toInt ∧ ar1.toInt < D 1 ∧ 0 ≤ ar2.toInt ∧ ar2.toInt ≤ 4) → ((-1) : Int) = D (52 + 5 * ar1.toNatClampNeg + ar2.toNatClampNeg)) ∧ (¬ (0 ≤ ar1.toInt ∧ ar1.toInt < D 1 ∧ 0 ≤ ar2.toInt ∧ ar2.toInt ≤ 4) → ((-1) : Int) = -1) from (by
                                                            intro u D hu hl hc hb h1
                                                            have ha : a5 = u := Value.ref.inj (e5.symm.trans hu)
                                                            subst ha
                                                            have hb1 : (a5 + 3) = a6 := Value.ref.inj ((hl.1.2.2.2.1).symm.trans e6)
                                                            subst hb1
                                                            have hm := hc.2.2.1.1
                                                            exact ⟨fun h => absurd h (by omega), fun _ => rfl⟩))⟩⟩
noncomputable def wl_e_ship : List (Nat × Nat) := [(69, 2)]
noncomputable def Q_e_ship (gi : Nat → Nat → Int32) (gl : Nat → Nat → Int64) (gr : Nat → Nat → Value) (ar1 : Int32) (ar2 : Int32) : Int32 → (Nat → Nat → Int32) → (Nat → Nat → Int64) → (Nat → Nat → Value) → Prop := fun (v : Int32) (gi2 : Nat → Nat → Int32) (gl2 : Nat → Nat → Int64) (gr2 : Nat → Nat → Value) => ∀ (D : s_D), t_ME 0 gi D → t_Cb D → ((0 ≤ ar1.toInt ∧ ar1.toInt < D 1 ∧ 0 ≤ ar2.toInt ∧ ar2.toInt ≤ 4) → v.toInt = D (52 + 5 * ar1.toNatClampNeg + ar2.toNatClampNeg)) ∧ (¬ (0 ≤ ar1.toInt ∧ ar1.toInt < D 1 ∧ 0 ≤ ar2.toInt ∧ ar2.toInt ≤ 4) → v.toInt = -1)
theorem c_e_ship {X : x_Ext} {d : Nat} {sh : List (Nat ⊕ (Nat × Nat))} {gi : Nat → Nat → Int32} {gl : Nat → Nat → Int64} {gr : Nat → Nat → Value} (hI : t_I sh gi gr) (ar1 : Int32) (ar2 : Int32) : x_Me X (d + 2) n_X12_ship [.ref 69, .int ar1, .int ar2] (sh, gi, gl, gr) (t_PI wl_e_ship sh gi gl gr (-1) 120 (Q_e_ship gi gl gr ar1 ar2)) := by
  have hX : t_X wl_e_ship sh gi gl gr gi gl gr := t_X.rf
  refine me_i f_X12_ship (hI.wf.s rfl) rfl rfl rfl ?_
  refine ev_loc f_X12_ship (nx := 1) rfl rfl rfl rfl ?_
  refine ev_loc f_X12_ship (nx := 2) rfl rfl rfl rfl ?_
  refine ev_inV2 f_X12_ship (nx := 5) (lo2 := [(0, .ref 69), (1, .int ar1)]) rfl rfl rfl rfl f_X12_isShip (hI.wf.s rfl) rfl rfl rfl rfl rfl ?_
  refine ev_loc f_X12_isShip (nx := 1) rfl rfl rfl rfl ?_
  refine ev_if f_X12_isShip (t1 := 18) (t2 := 4) rfl rfl rfl (fun h1 => ?_) (fun h1 => ?_)
  · have u2 : ar1.toInt ≤ (-1) := t_ltu h1 (by decide : (0:Int32).toInt ≤ (0:Int)) rfl
    refine ev_ic f_X12_isShip (nx := 19) (v := 0) rfl (by decide) rfl ?_
    refine ev_retK1 f_X12_isShip rfl rfl rfl ?_
    refine ev_t f_X12_ship (t1 := 37) (t2 := 8) rfl rfl rfl (by decide) ?_
    refine ev_loc f_X12_ship (nx := 38) rfl rfl rfl rfl ?_
    refine ev_ic f_X12_ship (nx := 39) (v := 1) rfl (by decide) rfl ?_
    refine ev_inV2 f_X12_ship (nx := 42) (lo2 := [(0, .ref 69), (1, .int 1)]) rfl rfl rfl rfl f_X12_refuse (hI.wf.s rfl) rfl rfl rfl rfl rfl ?_
    refine ev_loc f_X12_refuse (nx := 1) rfl rfl rfl rfl ?_
    refine ev_loc f_X12_refuse (nx := 2) rfl rfl rfl rfl ?_
    refine ev_putIT f_X12_refuse (nx := 5) rfl (hI.wf.s rfl) rfl rfl rfl (hI.put0 (hI.wf.s rfl) rfl rfl) (hX.upI rfl) (fun g3 e3 hI hX => ?_)
    refine ev_ic f_X12_refuse (nx := 6) (v := -1) rfl (by decide) rfl ?_
    refine ev_retK1 f_X12_refuse rfl rfl rfl ?_
    exact ev_ret f_X12_ship rfl rfl rfl ⟨_, _, _, rfl, hI, hX, ⟨_, rfl, (by decide : ((-1):Int) ≤ ((-1):Int32).toInt), (Int.le_trans (by decide : ((-1):Int32).toInt ≤ ((-1):Int)) (by decide : ((-1):Int) ≤ 120)), (show ∀ (D : s_D), t_ME 0 gi D → t_Cb D → ((0 ≤ ar1.toInt ∧ ar1.toInt < D 1 ∧ 0 ≤ ar2.toInt ∧ ar2.toInt ≤ 4) → ((-1) : Int) = D (52 + 5 * ar1.toNatClampNeg + ar2.toNatClampNeg)) ∧ (¬ (0 ≤ ar1.toInt ∧ ar1.toInt < D 1 ∧ 0 ≤ ar2.toInt ∧ ar2.toInt ≤ 4) → ((-1) : Int) = -1) from (by
                                                            intro D hm hb
                                                            have ha : (gi 70 1).toInt = D 1 := hm.1.1.2.1
                                                            exact ⟨fun h => absurd h (by omega), fun _ => rfl⟩))⟩⟩
  · have l4 : 0 ≤ ar1.toInt := t_lel (t_nlt h1) (by decide : (0:Int) ≤ (0:Int32).toInt)
    refine ev_loc f_X12_isShip (nx := 5) rfl rfl rfl rfl ?_
    refine ev_loc f_X12_isShip (nx := 6) rfl rfl rfl rfl ?_
    refine ev_getR f_X12_isShip (nx := 9) rfl (hI.wf.s rfl) rfl rfl (hI.wf.r rfl) rfl rfl ?_
    refine ev_ic f_X12_isShip (nx := 10) (v := 1) rfl (by decide) rfl ?_
    obtain ⟨l5, u5⟩ := hI.ab (by decide +kernel : t_abr 70 1 1 0 6 = true) (Nat.le_refl _) (Nat.le_refl _)
    refine ev_ialdv f_X12_isShip (nx := 11) (w := (gi 70 1)) rfl (hI.wf.s rfl) (by decide) (rfl : (1 : Int32).toNatClampNeg = 1) (by decide) rfl rfl ?_
    refine ev_if f_X12_isShip (t1 := 18) (t2 := 14) rfl rfl rfl (fun h6 => ?_) (fun h6 => ?_)
    · have r7 : (gi 70 1).toInt ≤ ar1.toInt := Int32.le_iff_toInt_le.mp h6
      refine ev_ic f_X12_isShip (nx := 19) (v := 0) rfl (by decide) rfl ?_
      refine ev_retK1 f_X12_isShip rfl rfl rfl ?_
      refine ev_t f_X12_ship (t1 := 37) (t2 := 8) rfl rfl rfl (by decide) ?_
      refine ev_loc f_X12_ship (nx := 38) rfl rfl rfl rfl ?_
      refine ev_ic f_X12_ship (nx := 39) (v := 1) rfl (by decide) rfl ?_
      refine ev_inV2 f_X12_ship (nx := 42) (lo2 := [(0, .ref 69), (1, .int 1)]) rfl rfl rfl rfl f_X12_refuse (hI.wf.s rfl) rfl rfl rfl rfl rfl ?_
      refine ev_loc f_X12_refuse (nx := 1) rfl rfl rfl rfl ?_
      refine ev_loc f_X12_refuse (nx := 2) rfl rfl rfl rfl ?_
      refine ev_putIT f_X12_refuse (nx := 5) rfl (hI.wf.s rfl) rfl rfl rfl (hI.put0 (hI.wf.s rfl) rfl rfl) (hX.upI rfl) (fun g8 e8 hI hX => ?_)
      refine ev_ic f_X12_refuse (nx := 6) (v := -1) rfl (by decide) rfl ?_
      refine ev_retK1 f_X12_refuse rfl rfl rfl ?_
      exact ev_ret f_X12_ship rfl rfl rfl ⟨_, _, _, rfl, hI, hX, ⟨_, rfl, (by decide : ((-1):Int) ≤ ((-1):Int32).toInt), (Int.le_trans (by decide : ((-1):Int32).toInt ≤ ((-1):Int)) (by decide : ((-1):Int) ≤ 120)), (show ∀ (D : s_D), t_ME 0 gi D → t_Cb D → ((0 ≤ ar1.toInt ∧ ar1.toInt < D 1 ∧ 0 ≤ ar2.toInt ∧ ar2.toInt ≤ 4) → ((-1) : Int) = D (52 + 5 * ar1.toNatClampNeg + ar2.toNatClampNeg)) ∧ (¬ (0 ≤ ar1.toInt ∧ ar1.toInt < D 1 ∧ 0 ≤ ar2.toInt ∧ ar2.toInt ≤ 4) → ((-1) : Int) = -1) from (by
                                                            intro D hm hb
                                                            have ha : (gi 70 1).toInt = D 1 := hm.1.1.2.1
                                                            exact ⟨fun h => absurd h (by omega), fun _ => rfl⟩))⟩⟩
    · have r9 : ar1.toInt < (gi 70 1).toInt := Int32.lt_iff_toInt_lt.mp (t_nle h6)
      have u10 : ar1.toInt ≤ 5 := t_ltu (t_nle h6) u5 rfl
      have l11 : 1 ≤ (gi 70 1).toInt := t_ltl (t_nle h6) l4 rfl
      refine ev_ic f_X12_isShip (nx := 15) (v := 1) rfl (by decide) rfl ?_
      refine ev_jmp f_X12_isShip (nx := 19) rfl rfl rfl ?_
      refine ev_retK1 f_X12_isShip rfl rfl rfl ?_
      refine ev_f f_X12_ship (t1 := 37) (t2 := 8) rfl rfl rfl (by decide) ?_
      refine ev_loc f_X12_ship (nx := 9) rfl rfl rfl rfl ?_
      refine ev_if f_X12_ship (t1 := 37) (t2 := 12) rfl rfl rfl (fun h12 => ?_) (fun h12 => ?_)
      · have u13 : ar2.toInt ≤ (-1) := t_ltu h12 (by decide : (0:Int32).toInt ≤ (0:Int)) rfl
        refine ev_loc f_X12_ship (nx := 38) rfl rfl rfl rfl ?_
        refine ev_ic f_X12_ship (nx := 39) (v := 1) rfl (by decide) rfl ?_
        refine ev_inV2 f_X12_ship (nx := 42) (lo2 := [(0, .ref 69), (1, .int 1)]) rfl rfl rfl rfl f_X12_refuse (hI.wf.s rfl) rfl rfl rfl rfl rfl ?_
        refine ev_loc f_X12_refuse (nx := 1) rfl rfl rfl rfl ?_
        refine ev_loc f_X12_refuse (nx := 2) rfl rfl rfl rfl ?_
        refine ev_putIT f_X12_refuse (nx := 5) rfl (hI.wf.s rfl) rfl rfl rfl (hI.put0 (hI.wf.s rfl) rfl rfl) (hX.upI rfl) (fun g14 e14 hI hX => ?_)
        refine ev_ic f_X12_refuse (nx := 6) (v := -1) rfl (by decide) rfl ?_
        refine ev_retK1 f_X12_refuse rfl rfl rfl ?_
        exact ev_ret f_X12_ship rfl rfl rfl ⟨_, _, _, rfl, hI, hX, ⟨_, rfl, (by decide : ((-1):Int) ≤ ((-1):Int32).toInt), (Int.le_trans (by decide : ((-1):Int32).toInt ≤ ((-1):Int)) (by decide : ((-1):Int) ≤ 120)), (show ∀ (D : s_D), t_ME 0 gi D → t_Cb D → ((0 ≤ ar1.toInt ∧ ar1.toInt < D 1 ∧ 0 ≤ ar2.toInt ∧ ar2.toInt ≤ 4) → ((-1) : Int) = D (52 + 5 * ar1.toNatClampNeg + ar2.toNatClampNeg)) ∧ (¬ (0 ≤ ar1.toInt ∧ ar1.toInt < D 1 ∧ 0 ≤ ar2.toInt ∧ ar2.toInt ≤ 4) → ((-1) : Int) = -1) from (by
                                                            intro D hm hb
                                                            have ha : (gi 70 1).toInt = D 1 := hm.1.1.2.1
                                                            exact ⟨fun h => absurd h (by omega), fun _ => rfl⟩))⟩⟩
      · have l15 : 0 ≤ ar2.toInt := t_lel (t_nlt h12) (by decide : (0:Int) ≤ (0:Int32).toInt)
        refine ev_loc f_X12_ship (nx := 13) rfl rfl rfl rfl ?_
        refine ev_ic f_X12_ship (nx := 14) (v := 4) rfl (by decide) rfl ?_
        refine ev_if f_X12_ship (t1 := 37) (t2 := 17) rfl rfl rfl (fun h16 => ?_) (fun h16 => ?_)
        · have l17 : 5 ≤ ar2.toInt := t_ltl h16 (by decide : (4:Int) ≤ (4:Int32).toInt) rfl
          refine ev_loc f_X12_ship (nx := 38) rfl rfl rfl rfl ?_
          refine ev_ic f_X12_ship (nx := 39) (v := 1) rfl (by decide) rfl ?_
          refine ev_inV2 f_X12_ship (nx := 42) (lo2 := [(0, .ref 69), (1, .int 1)]) rfl rfl rfl rfl f_X12_refuse (hI.wf.s rfl) rfl rfl rfl rfl rfl ?_
          refine ev_loc f_X12_refuse (nx := 1) rfl rfl rfl rfl ?_
          refine ev_loc f_X12_refuse (nx := 2) rfl rfl rfl rfl ?_
          refine ev_putIT f_X12_refuse (nx := 5) rfl (hI.wf.s rfl) rfl rfl rfl (hI.put0 (hI.wf.s rfl) rfl rfl) (hX.upI rfl) (fun g18 e18 hI hX => ?_)
          refine ev_ic f_X12_refuse (nx := 6) (v := -1) rfl (by decide) rfl ?_
          refine ev_retK1 f_X12_refuse rfl rfl rfl ?_
          exact ev_ret f_X12_ship rfl rfl rfl ⟨_, _, _, rfl, hI, hX, ⟨_, rfl, (by decide : ((-1):Int) ≤ ((-1):Int32).toInt), (Int.le_trans (by decide : ((-1):Int32).toInt ≤ ((-1):Int)) (by decide : ((-1):Int) ≤ 120)), (show ∀ (D : s_D), t_ME 0 gi D → t_Cb D → ((0 ≤ ar1.toInt ∧ ar1.toInt < D 1 ∧ 0 ≤ ar2.toInt ∧ ar2.toInt ≤ 4) → ((-1) : Int) = D (52 + 5 * ar1.toNatClampNeg + ar2.toNatClampNeg)) ∧ (¬ (0 ≤ ar1.toInt ∧ ar1.toInt < D 1 ∧ 0 ≤ ar2.toInt ∧ ar2.toInt ≤ 4) → ((-1) : Int) = -1) from (by
                                                            intro D hm hb
                                                            have ha : (gi 70 1).toInt = D 1 := hm.1.1.2.1
                                                            exact ⟨fun h => absurd h (by omega), fun _ => rfl⟩))⟩⟩
        · have u19 : ar2.toInt ≤ 4 := t_leu (t_nlt h16) (by decide : (4:Int32).toInt ≤ (4:Int))
          refine ev_loc f_X12_ship (nx := 18) rfl rfl rfl rfl ?_
          refine ev_loc f_X12_ship (nx := 19) rfl rfl rfl rfl ?_
          refine ev_getR f_X12_ship (nx := 22) rfl (hI.wf.s rfl) rfl rfl (hI.wf.r rfl) rfl rfl ?_
          refine ev_bp f_X12_ship (nx := 24) (v := 52) rfl (by decide) rfl ?_
          refine ev_ic f_X12_ship (nx := 25) (v := 5) rfl (by decide) rfl ?_
          refine ev_loc f_X12_ship (nx := 26) rfl rfl rfl rfl ?_
          refine ev_mulL f_X12_ship (nx := 27) (c := 5) (l := 0) (u := 25) rfl (by decide) (by decide) l4 u10 rfl rfl (by decide) (by decide) rfl (fun z20 e20 l20 u20 => ?_)
          refine ev_addK f_X12_ship (nx := 28) (c := 52) (l := 52) (u := 77) rfl (by decide) l20 u20 rfl rfl (by decide) (by decide) rfl (fun z21 e21 l21 u21 => ?_)
          refine ev_loc f_X12_ship (nx := 29) rfl rfl rfl rfl ?_
          refine ev_addR f_X12_ship (nx := 30) (l := 52) (u := 81) rfl l21 u21 l15 u19 rfl rfl (by decide) (by decide) rfl (fun z22 e22 l22 u22 => ?_)
          refine ev_ialdT f_X12_ship (nx := 31) rfl (hI.wf.s rfl) l22 (by decide) u22 (by decide) rfl (fun w23 e23 => ?_)
          obtain ⟨l23, u23⟩ := hI.abi e23 (by decide +kernel : t_abr 70 52 81 (-1) 120 = true) l22 (by decide) u22 (by decide)
          refine ev_inV2 f_X12_ship (nx := 34) (lo2 := [(0, .ref 69), (1, .int w23)]) rfl rfl rfl rfl f_X12_gives (hI.wf.s rfl) rfl rfl rfl rfl rfl ?_
          refine ev_loc f_X12_gives (nx := 1) rfl rfl rfl rfl ?_
          refine ev_ic f_X12_gives (nx := 2) (v := 0) rfl (by decide) rfl ?_
          refine ev_putIT f_X12_gives (nx := 5) rfl (hI.wf.s rfl) rfl rfl rfl (hI.put0 (hI.wf.s rfl) rfl rfl) (hX.upI rfl) (fun g24 e24 hI hX => ?_)
          refine ev_loc f_X12_gives (nx := 6) rfl rfl rfl rfl ?_
          refine ev_retK1 f_X12_gives rfl rfl rfl ?_
          refine ev_jmp f_X12_ship (nx := 42) rfl rfl rfl ?_
          exact ev_ret f_X12_ship rfl rfl rfl ⟨_, _, _, rfl, hI, hX, ⟨_, rfl, l23, u23, (show ∀ (D : s_D), t_ME 0 gi D → t_Cb D → ((0 ≤ ar1.toInt ∧ ar1.toInt < D 1 ∧ 0 ≤ ar2.toInt ∧ ar2.toInt ≤ 4) → w23.toInt = D (52 + 5 * ar1.toNatClampNeg + ar2.toNatClampNeg)) ∧ (¬ (0 ≤ ar1.toInt ∧ ar1.toInt < D 1 ∧ 0 ≤ ar2.toInt ∧ ar2.toInt ≤ 4) → w23.toInt = -1) from (by
                                                            intro D hm hb
                                                            have ha : (gi 70 1).toInt = D 1 := hm.1.1.2.1
                                                            have ka := t_clamp (i := ar1) (by omega)
                                                            have kb := t_clamp (i := ar2) (by omega)
                                                            have kc := t_clamp (i := z22) (by omega)
                                                            refine ⟨fun _ => ?_, fun h => absurd (show _ from ⟨by omega, by omega, by omega, by omega⟩) h⟩
                                                            have hd := hm.2.2.1 (52 + 5 * ar1.toNatClampNeg + ar2.toNatClampNeg) (by omega) (by omega)
                                                            rw [e23, show z22.toNatClampNeg = 0 + (52 + 5 * ar1.toNatClampNeg + ar2.toNatClampNeg) by omega]; exact hd))⟩⟩
noncomputable def wl_d_cart : List (Nat × Nat) := [(0, 0)]
noncomputable def Q_d_cart (gi : Nat → Nat → Int32) (gl : Nat → Nat → Int64) (gr : Nat → Nat → Value) (ar1 : Int32) (ar2 : Int32) : Int32 → (Nat → Nat → Int32) → (Nat → Nat → Int64) → (Nat → Nat → Value) → Prop := fun (v : Int32) (gi2 : Nat → Nat → Int32) (gl2 : Nat → Nat → Int64) (gr2 : Nat → Nat → Value) => ∀ (u : Nat) (D : s_D), gr 0 6 = .ref u → t_VL gr u → t_CV gi gl u D → t_Cb D → ((0 ≤ ar1.toInt ∧ ar1.toInt < D 2 ∧ 0 ≤ ar2.toInt ∧ ar2.toInt ≤ 2) → v.toInt = D (82 + 3 * ar1.toNatClampNeg + ar2.toNatClampNeg)) ∧ (¬ (0 ≤ ar1.toInt ∧ ar1.toInt < D 2 ∧ 0 ≤ ar2.toInt ∧ ar2.toInt ≤ 2) → v.toInt = -1)
theorem c_d_cart {X : x_Ext} {d : Nat} {sh : List (Nat ⊕ (Nat × Nat))} {gi : Nat → Nat → Int32} {gl : Nat → Nat → Int64} {gr : Nat → Nat → Value} (hI : t_I sh gi gr) (ar1 : Int32) (ar2 : Int32) : x_Me X (d + 2) n_X11_cart [.ref 0, .int ar1, .int ar2] (sh, gi, gl, gr) (t_PI wl_d_cart sh gi gl gr (-2147483648) 2147483647 (Q_d_cart gi gl gr ar1 ar2)) := by
  have hX : t_X wl_d_cart sh gi gl gr gi gl gr := t_X.rf
  refine me_i f_X11_cart (hI.wf.s rfl) rfl rfl rfl ?_
  refine ev_loc f_X11_cart (nx := 1) rfl rfl rfl rfl ?_
  refine ev_loc f_X11_cart (nx := 2) rfl rfl rfl rfl ?_
  refine ev_inV2 f_X11_cart (nx := 5) (lo2 := [(0, .ref 0), (1, .int ar1)]) rfl rfl rfl rfl f_X11_isCart (hI.wf.s rfl) rfl rfl rfl rfl rfl ?_
  refine ev_loc f_X11_isCart (nx := 1) rfl rfl rfl rfl ?_
  refine ev_if f_X11_isCart (t1 := 22) (t2 := 4) rfl rfl rfl (fun h1 => ?_) (fun h1 => ?_)
  · have u2 : ar1.toInt ≤ (-1) := t_ltu h1 (by decide : (0:Int32).toInt ≤ (0:Int)) rfl
    refine ev_ic f_X11_isCart (nx := 23) (v := 0) rfl (by decide) rfl ?_
    refine ev_retK1 f_X11_isCart rfl rfl rfl ?_
    refine ev_t f_X11_cart (t1 := 8) (t2 := 14) rfl rfl rfl (by decide) ?_
    refine ev_loc f_X11_cart (nx := 9) rfl rfl rfl rfl ?_
    refine ev_ic f_X11_cart (nx := 10) (v := 1) rfl (by decide) rfl ?_
    refine ev_inV2 f_X11_cart (nx := 13) (lo2 := [(0, .ref 0), (1, .int 1)]) rfl rfl rfl rfl f_X11_refuse (hI.wf.s rfl) rfl rfl rfl rfl rfl ?_
    refine ev_loc f_X11_refuse (nx := 1) rfl rfl rfl rfl ?_
    refine ev_loc f_X11_refuse (nx := 2) rfl rfl rfl rfl ?_
    refine ev_putIT f_X11_refuse (nx := 5) rfl (hI.wf.s rfl) rfl rfl rfl (hI.put0 (hI.wf.s rfl) rfl rfl) (hX.upI rfl) (fun g3 e3 hI hX => ?_)
    refine ev_ic f_X11_refuse (nx := 6) (v := -1) rfl (by decide) rfl ?_
    refine ev_retK1 f_X11_refuse rfl rfl rfl ?_
    exact ev_ret f_X11_cart rfl rfl rfl ⟨_, _, _, rfl, hI, hX, ⟨_, rfl, (Int.le_trans (by decide : ((-2147483648):Int) ≤ (-1)) (by decide : ((-1):Int) ≤ ((-1):Int32).toInt)), (Int.le_trans (by decide : ((-1):Int32).toInt ≤ ((-1):Int)) (by decide : ((-1):Int) ≤ 2147483647)), (show ∀ (u : Nat) (D : s_D), gr 0 6 = .ref u → t_VL gr u → t_CV gi gl u D → t_Cb D → ((0 ≤ ar1.toInt ∧ ar1.toInt < D 2 ∧ 0 ≤ ar2.toInt ∧ ar2.toInt ≤ 2) → ((-1) : Int) = D (82 + 3 * ar1.toNatClampNeg + ar2.toNatClampNeg)) ∧ (¬ (0 ≤ ar1.toInt ∧ ar1.toInt < D 2 ∧ 0 ≤ ar2.toInt ∧ ar2.toInt ≤ 2) → ((-1) : Int) = -1) from (by
                                                            intro u D hu hl hc hb
                                                            have hm := hc.2.2.2.1
                                                            exact ⟨fun h => absurd h (by omega), fun _ => rfl⟩))⟩⟩
  · have l4 : 0 ≤ ar1.toInt := t_lel (t_nlt h1) (by decide : (0:Int) ≤ (0:Int32).toInt)
    refine ev_loc f_X11_isCart (nx := 5) rfl rfl rfl rfl ?_
    refine ev_loc f_X11_isCart (nx := 6) rfl rfl rfl rfl ?_
    obtain ⟨a5, e5, p5⟩ := hI.2.2.2.1.1
    refine ev_getR f_X11_isCart (nx := 9) rfl (hI.wf.s rfl) rfl rfl e5 rfl rfl ?_
    obtain ⟨a6, e6, p6⟩ := p5.2.2.2.2.2
    refine ev_getR f_X11_isCart (nx := 12) rfl p5.1 rfl rfl e6 rfl rfl ?_
    refine ev_getI f_X11_isCart (nx := 15) rfl p6.1 rfl rfl rfl ?_
    obtain ⟨l7, u7⟩ := hI.b p6.1 (t_bdK rfl : t_bd 3 0 = some (0, 6))
    refine ev_if f_X11_isCart (t1 := 22) (t2 := 18) rfl rfl rfl (fun h8 => ?_) (fun h8 => ?_)
    · have r9 : (gi a6 0).toInt ≤ ar1.toInt := Int32.le_iff_toInt_le.mp h8
      refine ev_ic f_X11_isCart (nx := 23) (v := 0) rfl (by decide) rfl ?_
      refine ev_retK1 f_X11_isCart rfl rfl rfl ?_
      refine ev_t f_X11_cart (t1 := 8) (t2 := 14) rfl rfl rfl (by decide) ?_
      refine ev_loc f_X11_cart (nx := 9) rfl rfl rfl rfl ?_
      refine ev_ic f_X11_cart (nx := 10) (v := 1) rfl (by decide) rfl ?_
      refine ev_inV2 f_X11_cart (nx := 13) (lo2 := [(0, .ref 0), (1, .int 1)]) rfl rfl rfl rfl f_X11_refuse (hI.wf.s rfl) rfl rfl rfl rfl rfl ?_
      refine ev_loc f_X11_refuse (nx := 1) rfl rfl rfl rfl ?_
      refine ev_loc f_X11_refuse (nx := 2) rfl rfl rfl rfl ?_
      refine ev_putIT f_X11_refuse (nx := 5) rfl (hI.wf.s rfl) rfl rfl rfl (hI.put0 (hI.wf.s rfl) rfl rfl) (hX.upI rfl) (fun g10 e10 hI hX => ?_)
      refine ev_ic f_X11_refuse (nx := 6) (v := -1) rfl (by decide) rfl ?_
      refine ev_retK1 f_X11_refuse rfl rfl rfl ?_
      exact ev_ret f_X11_cart rfl rfl rfl ⟨_, _, _, rfl, hI, hX, ⟨_, rfl, (Int.le_trans (by decide : ((-2147483648):Int) ≤ (-1)) (by decide : ((-1):Int) ≤ ((-1):Int32).toInt)), (Int.le_trans (by decide : ((-1):Int32).toInt ≤ ((-1):Int)) (by decide : ((-1):Int) ≤ 2147483647)), (show ∀ (u : Nat) (D : s_D), gr 0 6 = .ref u → t_VL gr u → t_CV gi gl u D → t_Cb D → ((0 ≤ ar1.toInt ∧ ar1.toInt < D 2 ∧ 0 ≤ ar2.toInt ∧ ar2.toInt ≤ 2) → ((-1) : Int) = D (82 + 3 * ar1.toNatClampNeg + ar2.toNatClampNeg)) ∧ (¬ (0 ≤ ar1.toInt ∧ ar1.toInt < D 2 ∧ 0 ≤ ar2.toInt ∧ ar2.toInt ≤ 2) → ((-1) : Int) = -1) from (by
                                                            intro u D hu hl hc hb
                                                            have ha : a5 = u := Value.ref.inj (e5.symm.trans hu)
                                                            subst ha
                                                            have hb1 : (a5 + 10) = a6 := Value.ref.inj ((hl.1.2.2.2.2).symm.trans e6)
                                                            subst hb1
                                                            have hm := hc.2.2.2.1
                                                            exact ⟨fun h => absurd h (by omega), fun _ => rfl⟩))⟩⟩
    · have r11 : ar1.toInt < (gi a6 0).toInt := Int32.lt_iff_toInt_lt.mp (t_nle h8)
      have u12 : ar1.toInt ≤ 5 := t_ltu (t_nle h8) u7 rfl
      have l13 : 1 ≤ (gi a6 0).toInt := t_ltl (t_nle h8) l4 rfl
      refine ev_ic f_X11_isCart (nx := 19) (v := 1) rfl (by decide) rfl ?_
      refine ev_jmp f_X11_isCart (nx := 23) rfl rfl rfl ?_
      refine ev_retK1 f_X11_isCart rfl rfl rfl ?_
      refine ev_f f_X11_cart (t1 := 8) (t2 := 14) rfl rfl rfl (by decide) ?_
      refine ev_loc f_X11_cart (nx := 15) rfl rfl rfl rfl ?_
      have h14 : ar2.toInt = 0 ∨ ar2.toInt = 1 ∨ ar2.toInt = 2 ∨ (ar2.toInt ≠ 0 ∧ ar2.toInt ≠ 1 ∧ ar2.toInt ≠ 2) := by have := (t_lo ar2); have := (t_hi ar2); omega
      rcases h14 with h14 | h14 | h14 | h14
      · refine ev_swt f_X11_cart (nx := 40) (c := 0) rfl h14 rfl ?_
        refine ev_loc f_X11_cart (nx := 41) rfl rfl rfl rfl ?_
        refine ev_loc f_X11_cart (nx := 42) rfl rfl rfl rfl ?_
        refine ev_getR f_X11_cart (nx := 45) (v := .ref a5) rfl (hI.wf.s rfl) rfl rfl e5 rfl rfl ?_
        refine ev_getR f_X11_cart (nx := 48) (v := .ref a6) rfl p5.1 rfl rfl e6 rfl rfl ?_
        obtain ⟨a15, e15, s15, o15⟩ := p6.2.2.1
        refine ev_getR f_X11_cart (nx := 51) rfl p6.1 rfl rfl e15 rfl rfl ?_
        refine ev_loc f_X11_cart (nx := 52) rfl rfl rfl rfl ?_
        refine ev_ialdT f_X11_cart (nx := 53) rfl s15 l4 (by decide) u12 (by decide) rfl (fun w16 e16 => ?_)
        refine ev_inV2 f_X11_cart (nx := 56) (lo2 := [(0, .ref 0), (1, .int w16)]) rfl rfl rfl rfl f_X11_answer (hI.wf.s rfl) rfl rfl rfl rfl rfl ?_
        refine ev_loc f_X11_answer (nx := 1) rfl rfl rfl rfl ?_
        refine ev_ic f_X11_answer (nx := 2) (v := 0) rfl (by decide) rfl ?_
        refine ev_putIT f_X11_answer (nx := 5) rfl (hI.wf.s rfl) rfl rfl rfl (hI.put0 (hI.wf.s rfl) rfl rfl) (hX.upI rfl) (fun g17 e17 hI hX => ?_)
        refine ev_loc f_X11_answer (nx := 6) rfl rfl rfl rfl ?_
        refine ev_retK1 f_X11_answer rfl rfl rfl ?_
        exact ev_ret f_X11_cart rfl rfl rfl ⟨_, _, _, rfl, hI, hX, ⟨_, rfl, (t_lo w16), (t_hi w16), (show ∀ (u : Nat) (D : s_D), gr 0 6 = .ref u → t_VL gr u → t_CV gi gl u D → t_Cb D → ((0 ≤ ar1.toInt ∧ ar1.toInt < D 2 ∧ 0 ≤ ar2.toInt ∧ ar2.toInt ≤ 2) → w16.toInt = D (82 + 3 * ar1.toNatClampNeg + ar2.toNatClampNeg)) ∧ (¬ (0 ≤ ar1.toInt ∧ ar1.toInt < D 2 ∧ 0 ≤ ar2.toInt ∧ ar2.toInt ≤ 2) → w16.toInt = -1) from (by
                                                            intro u D hu hl hc hb
                                                            have ha : a5 = u := Value.ref.inj (e5.symm.trans hu)
                                                            subst ha
                                                            have hb1 : (a5 + 10) = a6 := Value.ref.inj ((hl.1.2.2.2.2).symm.trans e6)
                                                            subst hb1
                                                            have hb2 : (a5 + 10 + 2) = a15 := Value.ref.inj ((hl.2.2.2.1).symm.trans e15)
                                                            subst hb2
                                                            have hm := hc.2.2.2.1
                                                            have ka := t_clamp (i := ar1) (by omega)
                                                            have kb := t_clamp (i := ar2) (by omega)
                                                            have hs := hc.2.2.2.2 ar1.toNatClampNeg (by omega)
                                                            refine ⟨fun _ => ?_, fun h => absurd (show _ from ⟨by omega, by omega, by omega, by omega⟩) h⟩
                                                            rw [show 82 + 3 * ar1.toNatClampNeg + ar2.toNatClampNeg = 82 + 3 * ar1.toNatClampNeg by omega]
                                                            rw [e16]; exact hs.1))⟩⟩
      · refine ev_swt f_X11_cart (nx := 57) (c := 1) rfl h14 rfl ?_
        refine ev_loc f_X11_cart (nx := 58) rfl rfl rfl rfl ?_
        refine ev_loc f_X11_cart (nx := 59) rfl rfl rfl rfl ?_
        refine ev_getR f_X11_cart (nx := 62) (v := .ref a5) rfl (hI.wf.s rfl) rfl rfl e5 rfl rfl ?_
        refine ev_getR f_X11_cart (nx := 65) (v := .ref a6) rfl p5.1 rfl rfl e6 rfl rfl ?_
        obtain ⟨a18, e18, s18, o18⟩ := p6.2.2.2.1
        refine ev_getR f_X11_cart (nx := 68) rfl p6.1 rfl rfl e18 rfl rfl ?_
        refine ev_loc f_X11_cart (nx := 69) rfl rfl rfl rfl ?_
        refine ev_ialdT f_X11_cart (nx := 70) rfl s18 l4 (by decide) u12 (by decide) rfl (fun w19 e19 => ?_)
        refine ev_inV2 f_X11_cart (nx := 73) (lo2 := [(0, .ref 0), (1, .int w19)]) rfl rfl rfl rfl f_X11_answer (hI.wf.s rfl) rfl rfl rfl rfl rfl ?_
        refine ev_loc f_X11_answer (nx := 1) rfl rfl rfl rfl ?_
        refine ev_ic f_X11_answer (nx := 2) (v := 0) rfl (by decide) rfl ?_
        refine ev_putIT f_X11_answer (nx := 5) rfl (hI.wf.s rfl) rfl rfl rfl (hI.put0 (hI.wf.s rfl) rfl rfl) (hX.upI rfl) (fun g20 e20 hI hX => ?_)
        refine ev_loc f_X11_answer (nx := 6) rfl rfl rfl rfl ?_
        refine ev_retK1 f_X11_answer rfl rfl rfl ?_
        exact ev_ret f_X11_cart rfl rfl rfl ⟨_, _, _, rfl, hI, hX, ⟨_, rfl, (t_lo w19), (t_hi w19), (show ∀ (u : Nat) (D : s_D), gr 0 6 = .ref u → t_VL gr u → t_CV gi gl u D → t_Cb D → ((0 ≤ ar1.toInt ∧ ar1.toInt < D 2 ∧ 0 ≤ ar2.toInt ∧ ar2.toInt ≤ 2) → w19.toInt = D (82 + 3 * ar1.toNatClampNeg + ar2.toNatClampNeg)) ∧ (¬ (0 ≤ ar1.toInt ∧ ar1.toInt < D 2 ∧ 0 ≤ ar2.toInt ∧ ar2.toInt ≤ 2) → w19.toInt = -1) from (by
                                                            intro u D hu hl hc hb
                                                            have ha : a5 = u := Value.ref.inj (e5.symm.trans hu)
                                                            subst ha
                                                            have hb1 : (a5 + 10) = a6 := Value.ref.inj ((hl.1.2.2.2.2).symm.trans e6)
                                                            subst hb1
                                                            have hb2 : (a5 + 10 + 3) = a18 := Value.ref.inj ((hl.2.2.2.2.1).symm.trans e18)
                                                            subst hb2
                                                            have hm := hc.2.2.2.1
                                                            have ka := t_clamp (i := ar1) (by omega)
                                                            have kb := t_clamp (i := ar2) (by omega)
                                                            have hs := hc.2.2.2.2 ar1.toNatClampNeg (by omega)
                                                            refine ⟨fun _ => ?_, fun h => absurd (show _ from ⟨by omega, by omega, by omega, by omega⟩) h⟩
                                                            rw [show 82 + 3 * ar1.toNatClampNeg + ar2.toNatClampNeg = 83 + 3 * ar1.toNatClampNeg by omega]
                                                            rw [e19]; exact hs.2.1))⟩⟩
      · refine ev_swt f_X11_cart (nx := 74) (c := 2) rfl h14 rfl ?_
        refine ev_loc f_X11_cart (nx := 75) rfl rfl rfl rfl ?_
        refine ev_loc f_X11_cart (nx := 76) rfl rfl rfl rfl ?_
        refine ev_getR f_X11_cart (nx := 79) (v := .ref a5) rfl (hI.wf.s rfl) rfl rfl e5 rfl rfl ?_
        refine ev_getR f_X11_cart (nx := 82) (v := .ref a6) rfl p5.1 rfl rfl e6 rfl rfl ?_
        obtain ⟨a21, e21, s21, o21⟩ := p6.2.2.2.2.1
        refine ev_getR f_X11_cart (nx := 85) rfl p6.1 rfl rfl e21 rfl rfl ?_
        refine ev_loc f_X11_cart (nx := 86) rfl rfl rfl rfl ?_
        refine ev_ialdT f_X11_cart (nx := 87) rfl s21 l4 (by decide) u12 (by decide) rfl (fun w22 e22 => ?_)
        refine ev_inV2 f_X11_cart (nx := 90) (lo2 := [(0, .ref 0), (1, .int w22)]) rfl rfl rfl rfl f_X11_answer (hI.wf.s rfl) rfl rfl rfl rfl rfl ?_
        refine ev_loc f_X11_answer (nx := 1) rfl rfl rfl rfl ?_
        refine ev_ic f_X11_answer (nx := 2) (v := 0) rfl (by decide) rfl ?_
        refine ev_putIT f_X11_answer (nx := 5) rfl (hI.wf.s rfl) rfl rfl rfl (hI.put0 (hI.wf.s rfl) rfl rfl) (hX.upI rfl) (fun g23 e23 hI hX => ?_)
        refine ev_loc f_X11_answer (nx := 6) rfl rfl rfl rfl ?_
        refine ev_retK1 f_X11_answer rfl rfl rfl ?_
        exact ev_ret f_X11_cart rfl rfl rfl ⟨_, _, _, rfl, hI, hX, ⟨_, rfl, (t_lo w22), (t_hi w22), (show ∀ (u : Nat) (D : s_D), gr 0 6 = .ref u → t_VL gr u → t_CV gi gl u D → t_Cb D → ((0 ≤ ar1.toInt ∧ ar1.toInt < D 2 ∧ 0 ≤ ar2.toInt ∧ ar2.toInt ≤ 2) → w22.toInt = D (82 + 3 * ar1.toNatClampNeg + ar2.toNatClampNeg)) ∧ (¬ (0 ≤ ar1.toInt ∧ ar1.toInt < D 2 ∧ 0 ≤ ar2.toInt ∧ ar2.toInt ≤ 2) → w22.toInt = -1) from (by
                                                            intro u D hu hl hc hb
                                                            have ha : a5 = u := Value.ref.inj (e5.symm.trans hu)
                                                            subst ha
                                                            have hb1 : (a5 + 10) = a6 := Value.ref.inj ((hl.1.2.2.2.2).symm.trans e6)
                                                            subst hb1
                                                            have hb2 : (a5 + 10 + 4) = a21 := Value.ref.inj ((hl.2.2.2.2.2.1).symm.trans e21)
                                                            subst hb2
                                                            have hm := hc.2.2.2.1
                                                            have ka := t_clamp (i := ar1) (by omega)
                                                            have kb := t_clamp (i := ar2) (by omega)
                                                            have hs := hc.2.2.2.2 ar1.toNatClampNeg (by omega)
                                                            refine ⟨fun _ => ?_, fun h => absurd (show _ from ⟨by omega, by omega, by omega, by omega⟩) h⟩
                                                            rw [show 82 + 3 * ar1.toNatClampNeg + ar2.toNatClampNeg = 84 + 3 * ar1.toNatClampNeg by omega]
                                                            rw [e22]; exact hs.2.2.1))⟩⟩
      · refine ev_swtd f_X11_cart (nx := 91) rfl (by omega) (by decide) rfl ?_
        refine ev_loc f_X11_cart (nx := 92) rfl rfl rfl rfl ?_
        refine ev_ic f_X11_cart (nx := 93) (v := 1) rfl (by decide) rfl ?_
        refine ev_inV2 f_X11_cart (nx := 96) (lo2 := [(0, .ref 0), (1, .int 1)]) rfl rfl rfl rfl f_X11_refuse (hI.wf.s rfl) rfl rfl rfl rfl rfl ?_
        refine ev_loc f_X11_refuse (nx := 1) rfl rfl rfl rfl ?_
        refine ev_loc f_X11_refuse (nx := 2) rfl rfl rfl rfl ?_
        refine ev_putIT f_X11_refuse (nx := 5) rfl (hI.wf.s rfl) rfl rfl rfl (hI.put0 (hI.wf.s rfl) rfl rfl) (hX.upI rfl) (fun g24 e24 hI hX => ?_)
        refine ev_ic f_X11_refuse (nx := 6) (v := -1) rfl (by decide) rfl ?_
        refine ev_retK1 f_X11_refuse rfl rfl rfl ?_
        exact ev_ret f_X11_cart rfl rfl rfl ⟨_, _, _, rfl, hI, hX, ⟨_, rfl, (Int.le_trans (by decide : ((-2147483648):Int) ≤ (-1)) (by decide : ((-1):Int) ≤ ((-1):Int32).toInt)), (Int.le_trans (by decide : ((-1):Int32).toInt ≤ ((-1):Int)) (by decide : ((-1):Int) ≤ 2147483647)), (show ∀ (u : Nat) (D : s_D), gr 0 6 = .ref u → t_VL gr u → t_CV gi gl u D → t_Cb D → ((0 ≤ ar1.toInt ∧ ar1.toInt < D 2 ∧ 0 ≤ ar2.toInt ∧ ar2.toInt ≤ 2) → ((-1) : Int) = D (82 + 3 * ar1.toNatClampNeg + ar2.toNatClampNeg)) ∧ (¬ (0 ≤ ar1.toInt ∧ ar1.toInt < D 2 ∧ 0 ≤ ar2.toInt ∧ ar2.toInt ≤ 2) → ((-1) : Int) = -1) from (by
                                                            intro u D hu hl hc hb
                                                            have ha : a5 = u := Value.ref.inj (e5.symm.trans hu)
                                                            subst ha
                                                            have hb1 : (a5 + 10) = a6 := Value.ref.inj ((hl.1.2.2.2.2).symm.trans e6)
                                                            subst hb1
                                                            have hm := hc.2.2.2.1
                                                            exact ⟨fun h => absurd h (by omega), fun _ => rfl⟩))⟩⟩
noncomputable def wl_e_cart : List (Nat × Nat) := [(69, 2)]
noncomputable def Q_e_cart (gi : Nat → Nat → Int32) (gl : Nat → Nat → Int64) (gr : Nat → Nat → Value) (ar1 : Int32) (ar2 : Int32) : Int32 → (Nat → Nat → Int32) → (Nat → Nat → Int64) → (Nat → Nat → Value) → Prop := fun (v : Int32) (gi2 : Nat → Nat → Int32) (gl2 : Nat → Nat → Int64) (gr2 : Nat → Nat → Value) => ∀ (D : s_D), t_ME 0 gi D → t_Cb D → ((0 ≤ ar1.toInt ∧ ar1.toInt < D 2 ∧ 0 ≤ ar2.toInt ∧ ar2.toInt ≤ 2) → v.toInt = D (82 + 3 * ar1.toNatClampNeg + ar2.toNatClampNeg)) ∧ (¬ (0 ≤ ar1.toInt ∧ ar1.toInt < D 2 ∧ 0 ≤ ar2.toInt ∧ ar2.toInt ≤ 2) → v.toInt = -1)
theorem c_e_cart {X : x_Ext} {d : Nat} {sh : List (Nat ⊕ (Nat × Nat))} {gi : Nat → Nat → Int32} {gl : Nat → Nat → Int64} {gr : Nat → Nat → Value} (hI : t_I sh gi gr) (ar1 : Int32) (ar2 : Int32) : x_Me X (d + 2) n_X12_cart [.ref 69, .int ar1, .int ar2] (sh, gi, gl, gr) (t_PI wl_e_cart sh gi gl gr (-1) 120 (Q_e_cart gi gl gr ar1 ar2)) := by
  have hX : t_X wl_e_cart sh gi gl gr gi gl gr := t_X.rf
  refine me_i f_X12_cart (hI.wf.s rfl) rfl rfl rfl ?_
  refine ev_loc f_X12_cart (nx := 1) rfl rfl rfl rfl ?_
  refine ev_loc f_X12_cart (nx := 2) rfl rfl rfl rfl ?_
  refine ev_inV2 f_X12_cart (nx := 5) (lo2 := [(0, .ref 69), (1, .int ar1)]) rfl rfl rfl rfl f_X12_isCart (hI.wf.s rfl) rfl rfl rfl rfl rfl ?_
  refine ev_loc f_X12_isCart (nx := 1) rfl rfl rfl rfl ?_
  refine ev_if f_X12_isCart (t1 := 18) (t2 := 4) rfl rfl rfl (fun h1 => ?_) (fun h1 => ?_)
  · have u2 : ar1.toInt ≤ (-1) := t_ltu h1 (by decide : (0:Int32).toInt ≤ (0:Int)) rfl
    refine ev_ic f_X12_isCart (nx := 19) (v := 0) rfl (by decide) rfl ?_
    refine ev_retK1 f_X12_isCart rfl rfl rfl ?_
    refine ev_t f_X12_cart (t1 := 37) (t2 := 8) rfl rfl rfl (by decide) ?_
    refine ev_loc f_X12_cart (nx := 38) rfl rfl rfl rfl ?_
    refine ev_ic f_X12_cart (nx := 39) (v := 1) rfl (by decide) rfl ?_
    refine ev_inV2 f_X12_cart (nx := 42) (lo2 := [(0, .ref 69), (1, .int 1)]) rfl rfl rfl rfl f_X12_refuse (hI.wf.s rfl) rfl rfl rfl rfl rfl ?_
    refine ev_loc f_X12_refuse (nx := 1) rfl rfl rfl rfl ?_
    refine ev_loc f_X12_refuse (nx := 2) rfl rfl rfl rfl ?_
    refine ev_putIT f_X12_refuse (nx := 5) rfl (hI.wf.s rfl) rfl rfl rfl (hI.put0 (hI.wf.s rfl) rfl rfl) (hX.upI rfl) (fun g3 e3 hI hX => ?_)
    refine ev_ic f_X12_refuse (nx := 6) (v := -1) rfl (by decide) rfl ?_
    refine ev_retK1 f_X12_refuse rfl rfl rfl ?_
    exact ev_ret f_X12_cart rfl rfl rfl ⟨_, _, _, rfl, hI, hX, ⟨_, rfl, (by decide : ((-1):Int) ≤ ((-1):Int32).toInt), (Int.le_trans (by decide : ((-1):Int32).toInt ≤ ((-1):Int)) (by decide : ((-1):Int) ≤ 120)), (show ∀ (D : s_D), t_ME 0 gi D → t_Cb D → ((0 ≤ ar1.toInt ∧ ar1.toInt < D 2 ∧ 0 ≤ ar2.toInt ∧ ar2.toInt ≤ 2) → ((-1) : Int) = D (82 + 3 * ar1.toNatClampNeg + ar2.toNatClampNeg)) ∧ (¬ (0 ≤ ar1.toInt ∧ ar1.toInt < D 2 ∧ 0 ≤ ar2.toInt ∧ ar2.toInt ≤ 2) → ((-1) : Int) = -1) from (by
                                                            intro D hm hb
                                                            have ha : (gi 70 2).toInt = D 2 := hm.1.1.2.2
                                                            exact ⟨fun h => absurd h (by omega), fun _ => rfl⟩))⟩⟩
  · have l4 : 0 ≤ ar1.toInt := t_lel (t_nlt h1) (by decide : (0:Int) ≤ (0:Int32).toInt)
    refine ev_loc f_X12_isCart (nx := 5) rfl rfl rfl rfl ?_
    refine ev_loc f_X12_isCart (nx := 6) rfl rfl rfl rfl ?_
    refine ev_getR f_X12_isCart (nx := 9) rfl (hI.wf.s rfl) rfl rfl (hI.wf.r rfl) rfl rfl ?_
    refine ev_ic f_X12_isCart (nx := 10) (v := 2) rfl (by decide) rfl ?_
    obtain ⟨l5, u5⟩ := hI.ab (by decide +kernel : t_abr 70 2 2 0 6 = true) (Nat.le_refl _) (Nat.le_refl _)
    refine ev_ialdv f_X12_isCart (nx := 11) (w := (gi 70 2)) rfl (hI.wf.s rfl) (by decide) (rfl : (2 : Int32).toNatClampNeg = 2) (by decide) rfl rfl ?_
    refine ev_if f_X12_isCart (t1 := 18) (t2 := 14) rfl rfl rfl (fun h6 => ?_) (fun h6 => ?_)
    · have r7 : (gi 70 2).toInt ≤ ar1.toInt := Int32.le_iff_toInt_le.mp h6
      refine ev_ic f_X12_isCart (nx := 19) (v := 0) rfl (by decide) rfl ?_
      refine ev_retK1 f_X12_isCart rfl rfl rfl ?_
      refine ev_t f_X12_cart (t1 := 37) (t2 := 8) rfl rfl rfl (by decide) ?_
      refine ev_loc f_X12_cart (nx := 38) rfl rfl rfl rfl ?_
      refine ev_ic f_X12_cart (nx := 39) (v := 1) rfl (by decide) rfl ?_
      refine ev_inV2 f_X12_cart (nx := 42) (lo2 := [(0, .ref 69), (1, .int 1)]) rfl rfl rfl rfl f_X12_refuse (hI.wf.s rfl) rfl rfl rfl rfl rfl ?_
      refine ev_loc f_X12_refuse (nx := 1) rfl rfl rfl rfl ?_
      refine ev_loc f_X12_refuse (nx := 2) rfl rfl rfl rfl ?_
      refine ev_putIT f_X12_refuse (nx := 5) rfl (hI.wf.s rfl) rfl rfl rfl (hI.put0 (hI.wf.s rfl) rfl rfl) (hX.upI rfl) (fun g8 e8 hI hX => ?_)
      refine ev_ic f_X12_refuse (nx := 6) (v := -1) rfl (by decide) rfl ?_
      refine ev_retK1 f_X12_refuse rfl rfl rfl ?_
      exact ev_ret f_X12_cart rfl rfl rfl ⟨_, _, _, rfl, hI, hX, ⟨_, rfl, (by decide : ((-1):Int) ≤ ((-1):Int32).toInt), (Int.le_trans (by decide : ((-1):Int32).toInt ≤ ((-1):Int)) (by decide : ((-1):Int) ≤ 120)), (show ∀ (D : s_D), t_ME 0 gi D → t_Cb D → ((0 ≤ ar1.toInt ∧ ar1.toInt < D 2 ∧ 0 ≤ ar2.toInt ∧ ar2.toInt ≤ 2) → ((-1) : Int) = D (82 + 3 * ar1.toNatClampNeg + ar2.toNatClampNeg)) ∧ (¬ (0 ≤ ar1.toInt ∧ ar1.toInt < D 2 ∧ 0 ≤ ar2.toInt ∧ ar2.toInt ≤ 2) → ((-1) : Int) = -1) from (by
                                                            intro D hm hb
                                                            have ha : (gi 70 2).toInt = D 2 := hm.1.1.2.2
                                                            exact ⟨fun h => absurd h (by omega), fun _ => rfl⟩))⟩⟩
    · have r9 : ar1.toInt < (gi 70 2).toInt := Int32.lt_iff_toInt_lt.mp (t_nle h6)
      have u10 : ar1.toInt ≤ 5 := t_ltu (t_nle h6) u5 rfl
      have l11 : 1 ≤ (gi 70 2).toInt := t_ltl (t_nle h6) l4 rfl
      refine ev_ic f_X12_isCart (nx := 15) (v := 1) rfl (by decide) rfl ?_
      refine ev_jmp f_X12_isCart (nx := 19) rfl rfl rfl ?_
      refine ev_retK1 f_X12_isCart rfl rfl rfl ?_
      refine ev_f f_X12_cart (t1 := 37) (t2 := 8) rfl rfl rfl (by decide) ?_
      refine ev_loc f_X12_cart (nx := 9) rfl rfl rfl rfl ?_
      refine ev_if f_X12_cart (t1 := 37) (t2 := 12) rfl rfl rfl (fun h12 => ?_) (fun h12 => ?_)
      · have u13 : ar2.toInt ≤ (-1) := t_ltu h12 (by decide : (0:Int32).toInt ≤ (0:Int)) rfl
        refine ev_loc f_X12_cart (nx := 38) rfl rfl rfl rfl ?_
        refine ev_ic f_X12_cart (nx := 39) (v := 1) rfl (by decide) rfl ?_
        refine ev_inV2 f_X12_cart (nx := 42) (lo2 := [(0, .ref 69), (1, .int 1)]) rfl rfl rfl rfl f_X12_refuse (hI.wf.s rfl) rfl rfl rfl rfl rfl ?_
        refine ev_loc f_X12_refuse (nx := 1) rfl rfl rfl rfl ?_
        refine ev_loc f_X12_refuse (nx := 2) rfl rfl rfl rfl ?_
        refine ev_putIT f_X12_refuse (nx := 5) rfl (hI.wf.s rfl) rfl rfl rfl (hI.put0 (hI.wf.s rfl) rfl rfl) (hX.upI rfl) (fun g14 e14 hI hX => ?_)
        refine ev_ic f_X12_refuse (nx := 6) (v := -1) rfl (by decide) rfl ?_
        refine ev_retK1 f_X12_refuse rfl rfl rfl ?_
        exact ev_ret f_X12_cart rfl rfl rfl ⟨_, _, _, rfl, hI, hX, ⟨_, rfl, (by decide : ((-1):Int) ≤ ((-1):Int32).toInt), (Int.le_trans (by decide : ((-1):Int32).toInt ≤ ((-1):Int)) (by decide : ((-1):Int) ≤ 120)), (show ∀ (D : s_D), t_ME 0 gi D → t_Cb D → ((0 ≤ ar1.toInt ∧ ar1.toInt < D 2 ∧ 0 ≤ ar2.toInt ∧ ar2.toInt ≤ 2) → ((-1) : Int) = D (82 + 3 * ar1.toNatClampNeg + ar2.toNatClampNeg)) ∧ (¬ (0 ≤ ar1.toInt ∧ ar1.toInt < D 2 ∧ 0 ≤ ar2.toInt ∧ ar2.toInt ≤ 2) → ((-1) : Int) = -1) from (by
                                                            intro D hm hb
                                                            have ha : (gi 70 2).toInt = D 2 := hm.1.1.2.2
                                                            exact ⟨fun h => absurd h (by omega), fun _ => rfl⟩))⟩⟩
      · have l15 : 0 ≤ ar2.toInt := t_lel (t_nlt h12) (by decide : (0:Int) ≤ (0:Int32).toInt)
        refine ev_loc f_X12_cart (nx := 13) rfl rfl rfl rfl ?_
        refine ev_ic f_X12_cart (nx := 14) (v := 2) rfl (by decide) rfl ?_
        refine ev_if f_X12_cart (t1 := 37) (t2 := 17) rfl rfl rfl (fun h16 => ?_) (fun h16 => ?_)
        · have l17 : 3 ≤ ar2.toInt := t_ltl h16 (by decide : (2:Int) ≤ (2:Int32).toInt) rfl
          refine ev_loc f_X12_cart (nx := 38) rfl rfl rfl rfl ?_
          refine ev_ic f_X12_cart (nx := 39) (v := 1) rfl (by decide) rfl ?_
          refine ev_inV2 f_X12_cart (nx := 42) (lo2 := [(0, .ref 69), (1, .int 1)]) rfl rfl rfl rfl f_X12_refuse (hI.wf.s rfl) rfl rfl rfl rfl rfl ?_
          refine ev_loc f_X12_refuse (nx := 1) rfl rfl rfl rfl ?_
          refine ev_loc f_X12_refuse (nx := 2) rfl rfl rfl rfl ?_
          refine ev_putIT f_X12_refuse (nx := 5) rfl (hI.wf.s rfl) rfl rfl rfl (hI.put0 (hI.wf.s rfl) rfl rfl) (hX.upI rfl) (fun g18 e18 hI hX => ?_)
          refine ev_ic f_X12_refuse (nx := 6) (v := -1) rfl (by decide) rfl ?_
          refine ev_retK1 f_X12_refuse rfl rfl rfl ?_
          exact ev_ret f_X12_cart rfl rfl rfl ⟨_, _, _, rfl, hI, hX, ⟨_, rfl, (by decide : ((-1):Int) ≤ ((-1):Int32).toInt), (Int.le_trans (by decide : ((-1):Int32).toInt ≤ ((-1):Int)) (by decide : ((-1):Int) ≤ 120)), (show ∀ (D : s_D), t_ME 0 gi D → t_Cb D → ((0 ≤ ar1.toInt ∧ ar1.toInt < D 2 ∧ 0 ≤ ar2.toInt ∧ ar2.toInt ≤ 2) → ((-1) : Int) = D (82 + 3 * ar1.toNatClampNeg + ar2.toNatClampNeg)) ∧ (¬ (0 ≤ ar1.toInt ∧ ar1.toInt < D 2 ∧ 0 ≤ ar2.toInt ∧ ar2.toInt ≤ 2) → ((-1) : Int) = -1) from (by
                                                            intro D hm hb
                                                            have ha : (gi 70 2).toInt = D 2 := hm.1.1.2.2
                                                            exact ⟨fun h => absurd h (by omega), fun _ => rfl⟩))⟩⟩
        · have u19 : ar2.toInt ≤ 2 := t_leu (t_nlt h16) (by decide : (2:Int32).toInt ≤ (2:Int))
          refine ev_loc f_X12_cart (nx := 18) rfl rfl rfl rfl ?_
          refine ev_loc f_X12_cart (nx := 19) rfl rfl rfl rfl ?_
          refine ev_getR f_X12_cart (nx := 22) rfl (hI.wf.s rfl) rfl rfl (hI.wf.r rfl) rfl rfl ?_
          refine ev_bp f_X12_cart (nx := 24) (v := 82) rfl (by decide) rfl ?_
          refine ev_ic f_X12_cart (nx := 25) (v := 3) rfl (by decide) rfl ?_
          refine ev_loc f_X12_cart (nx := 26) rfl rfl rfl rfl ?_
          refine ev_mulL f_X12_cart (nx := 27) (c := 3) (l := 0) (u := 15) rfl (by decide) (by decide) l4 u10 rfl rfl (by decide) (by decide) rfl (fun z20 e20 l20 u20 => ?_)
          refine ev_addK f_X12_cart (nx := 28) (c := 82) (l := 82) (u := 97) rfl (by decide) l20 u20 rfl rfl (by decide) (by decide) rfl (fun z21 e21 l21 u21 => ?_)
          refine ev_loc f_X12_cart (nx := 29) rfl rfl rfl rfl ?_
          refine ev_addR f_X12_cart (nx := 30) (l := 82) (u := 99) rfl l21 u21 l15 u19 rfl rfl (by decide) (by decide) rfl (fun z22 e22 l22 u22 => ?_)
          refine ev_ialdT f_X12_cart (nx := 31) rfl (hI.wf.s rfl) l22 (by decide) u22 (by decide) rfl (fun w23 e23 => ?_)
          obtain ⟨l23, u23⟩ := hI.abi e23 (by decide +kernel : t_abr 70 82 99 0 120 = true) l22 (by decide) u22 (by decide)
          refine ev_inV2 f_X12_cart (nx := 34) (lo2 := [(0, .ref 69), (1, .int w23)]) rfl rfl rfl rfl f_X12_gives (hI.wf.s rfl) rfl rfl rfl rfl rfl ?_
          refine ev_loc f_X12_gives (nx := 1) rfl rfl rfl rfl ?_
          refine ev_ic f_X12_gives (nx := 2) (v := 0) rfl (by decide) rfl ?_
          refine ev_putIT f_X12_gives (nx := 5) rfl (hI.wf.s rfl) rfl rfl rfl (hI.put0 (hI.wf.s rfl) rfl rfl) (hX.upI rfl) (fun g24 e24 hI hX => ?_)
          refine ev_loc f_X12_gives (nx := 6) rfl rfl rfl rfl ?_
          refine ev_retK1 f_X12_gives rfl rfl rfl ?_
          refine ev_jmp f_X12_cart (nx := 42) rfl rfl rfl ?_
          exact ev_ret f_X12_cart rfl rfl rfl ⟨_, _, _, rfl, hI, hX, ⟨_, rfl, (Int.le_trans (by decide : ((-1):Int) ≤ 0) l23), u23, (show ∀ (D : s_D), t_ME 0 gi D → t_Cb D → ((0 ≤ ar1.toInt ∧ ar1.toInt < D 2 ∧ 0 ≤ ar2.toInt ∧ ar2.toInt ≤ 2) → w23.toInt = D (82 + 3 * ar1.toNatClampNeg + ar2.toNatClampNeg)) ∧ (¬ (0 ≤ ar1.toInt ∧ ar1.toInt < D 2 ∧ 0 ≤ ar2.toInt ∧ ar2.toInt ≤ 2) → w23.toInt = -1) from (by
                                                            intro D hm hb
                                                            have ha : (gi 70 2).toInt = D 2 := hm.1.1.2.2
                                                            have ka := t_clamp (i := ar1) (by omega)
                                                            have kb := t_clamp (i := ar2) (by omega)
                                                            have kc := t_clamp (i := z22) (by omega)
                                                            refine ⟨fun _ => ?_, fun h => absurd (show _ from ⟨by omega, by omega, by omega, by omega⟩) h⟩
                                                            have hd := hm.2.2.2 (82 + 3 * ar1.toNatClampNeg + ar2.toNatClampNeg) (by omega) (by omega)
                                                            rw [e23, show z22.toNatClampNeg = 0 + (82 + 3 * ar1.toNatClampNeg + ar2.toNatClampNeg) by omega]; exact hd))⟩⟩
/-! ===== RIVERS through river(), rules(), MARKS; what is told of SHIPS, CARTS ===== -/
section DLAW
variable {sh sh1 : List (Nat ⊕ (Nat × Nat))} {gi g1 g2 : Nat → Nat → Int32} {gl l1 l2 : Nat → Nat → Int64} {gr r1 r2 : Nat → Nat → Value} {w1 w2 : List (Nat × Nat)} {A A2 x1 x2 : Int32}
/-- the other side's call leaves the class's cells -/
theorem t_D_m (x : t_X w2 sh1 g1 l1 r1 g2 l2 r2) (hw : (t_ndB w2 && (t_un w2 (0, 6) && (t_un w2 (0, 12) && t_nc w2 19))) = true) : (∀ K, (3 ≤ K ∧ K < 19) ∨ 102 ≤ K → g2 K = g1 K ∧ l2 K = l1 K ∧ r2 K = r1 K) ∧ r2 0 6 = r1 0 6 ∧ g2 0 12 = g1 0 12 ∧ r2 19 = r1 19 := by
  simp only [Bool.and_eq_true] at hw
  have f := t_F_X x
  exact ⟨t_nd_fr x hw.1, (f 0 6 (by decide) (t_un_ok hw.2.1)).2.2, (f 0 12 (by decide) (t_un_ok hw.2.2.1)).1, t_F_nr f hw.2.2.2 (by decide)⟩
theorem t_DR_river (hT : t_TP gi) (hR : t_R gi gr) (hD : t_DR sh.length gi gl gr) (h102 : 102 ≤ sh.length) (hle : sh.length ≤ sh1.length) (hm3 : (gi 0 12).toInt ≤ 3) (f1 : t_F w1 gi gl gr g1 l1 r1) (hw1 : (t_nc w1 75 && (t_nc w1 70 && (t_nc w1 19 && t_un w1 (0, 12)))) = true) (h69 : t_in w1 69 10 = false) (xm : t_X w2 sh1 g1 l1 r1 g2 l2 r2) (hw2 : (t_ndB w2 && (t_un w2 (0, 6) && (t_un w2 (0, 12) && t_nc w2 19))) = true) (em : ∀ j, 350 ≤ j → j < 1400 → g2 70 j = g1 70 j) (q1 : ((0 ≤ A.toInt ∧ A.toInt ≤ (gi 0 5).toInt) → ∀ n : Nat, (n : Int) = A.toInt → t_RES gi gl gr sh.length (gi 2) n x1 g1 l1 r1) ∧ (¬ (0 ≤ A.toInt ∧ A.toInt ≤ (gi 0 5).toInt) → x1.toInt = -1 ∧ (∀ K, K ≠ 0 → g1 K = gi K ∧ l1 K = gl K ∧ r1 K = gr K) ∧ r1 0 6 = gr 0 6 ∧ r1 0 7 = gr 0 7) ∧ (0 ≤ A.toInt ∧ A.toInt ≤ (gi 0 5).toInt → sh.length + 18 ≤ sh1.length)) (q2 : Q_n_river g1 l1 r1 A x2 g2 l2 r2) : t_DR sh1.length g2 l2 r2 := by
  simp only [Bool.and_eq_true] at hw1
  obtain ⟨n75, n70, n19, n12⟩ := hw1
  have e0 : (gi 0 5).toInt = (gi 69 10).toInt := congrArg Int32.toInt (t_R_fed hR)
  have e1 : (g1 69 10).toInt = (gi 69 10).toInt := congrArg Int32.toInt (f1 69 10 (by decide) h69).1
  have r75 : g1 75 = gi 75 := t_F_nc f1 n75 (by decide)
  have r70 : g1 70 = gi 70 := t_F_nc f1 n70 (by decide)
  have r12 : g1 0 12 = gi 0 12 := (f1 0 12 (by decide) (t_un_ok n12)).1
  have r19 : r1 19 = gr 19 := t_F_nr f1 n19 (by decide)
  obtain ⟨m0, m6, m12, m19⟩ := t_D_m xm hw2
  obtain ⟨k1, k2⟩ := q2
  have same : r1 0 6 = gr 0 6 → (∀ K, K ≠ 0 → K < sh.length → g1 K = gi K ∧ l1 K = gl K ∧ r1 K = gr K) → (∀ j : Nat, j < 350 → g2 70 j = g1 70 j) → t_DR sh1.length g2 l2 r2 := by
    intro s6 sK s70
    refine t_DR_gen hD hle (fun K hK => ?_) (m6.trans s6) (m12.trans r12) (m19.trans r19) (fun j hj _ _ _ => ?_) hm3
    · have a := m0 K (by omega)
      have b := sK K (by omega) (by omega)
      exact ⟨a.1.trans b.1, a.2.1.trans b.2.1, a.2.2.trans b.2.2⟩
    · by_cases hj3 : j < 350
      · rw [s70 j hj3, r70]
      · rw [em j (by omega) hj, r70]
  by_cases hin : 0 ≤ A.toInt ∧ A.toInt ≤ (gi 0 5).toInt
  · obtain ⟨n, hn⟩ : ∃ n : Nat, (n : Int) = A.toInt := ⟨A.toInt.toNat, by omega⟩
    obtain ⟨p1, pl⟩ := q1.1 hin n hn
    have p2 := k1 (by omega) (gi 2) n hn (fun j hj => by rw [r75]; exact (hT j (by omega)).1.symm) (fun j hj => (hT j (by omega)).2)
    have hlen := q1.2.2 hin
    have pl2 : ∀ K, K ≠ 0 → K < sh.length → g1 K = gi K ∧ l1 K = gl K ∧ r1 K = gr K := fun K a b => pl K a b
    rcases p1 with ⟨q, D, a1, a2, a3, a4, a5, a6, a7, a8⟩ | ⟨p, x, D, a0, a1, a2, a3, a4, a5, a6⟩
    · rcases p2 with ⟨q', D', b1, b2, b3, b4, b5, b6⟩ | ⟨p', x', D', b0, b1, -⟩
      · obtain rfl := s_ok_D (a1.symm.trans b1)
        refine ⟨⟨sh.length + 2, m6.trans a5, D, b2, ⟨Or.inr (by omega), by omega⟩, a8.fr (fun K c1 c2 => m0 K (by omega)), a7.cv.fr (fun K c1 c2 => m0 K (by omega)), b4.e⟩, fun k hk => ?_⟩
        rw [m12, r12] at hk
        obtain ⟨u, h4, h5⟩ := hD.2 k hk
        refine ⟨u, by rw [m19, r19]; exact h4, h5.fr hle (fun K hK => ?_) (fun j a b c => ?_)⟩
        · have a := m0 K (by omega)
          have b := pl2 K (by omega) (by omega)
          exact ⟨a.1.trans b.1, a.2.1.trans b.2.1, a.2.2.trans b.2.2⟩
        · rw [em _ (by omega) (by omega), r70]
      · exact (s_ok_bad b0 (a1.symm.trans b1)).elim
    · rcases p2 with ⟨q', D', b1, -⟩ | ⟨p', x', D', b0, b1, b2, b3, b4, b5⟩
      · exact (s_ok_bad a0 (b1.symm.trans a1)).elim
      · exact same a5 pl2 b5
  · have h := q1.2.1 hin
    exact same h.2.2.1 (fun K a _ => h.2.1 K a) (k2 (by omega)).2
/-- RULES: no RIVER is touched -/
theorem t_DR_rules (hD : t_DR sh.length gi gl gr) (h102 : 102 ≤ sh.length) (hle : sh.length ≤ sh1.length) (hm3 : (gi 0 12).toInt ≤ 3) (f1 : t_F w1 gi gl gr g1 l1 r1) (hw1 : (t_nc w1 70 && (t_nc w1 19 && t_un w1 (0, 12))) = true) (xm : t_X w2 sh1 g1 l1 r1 g2 l2 r2) (hw2 : (t_ndB w2 && (t_un w2 (0, 6) && (t_un w2 (0, 12) && t_nc w2 19))) = true) (em : ∀ j, j < 1400 → j % 350 ≠ 3 → j % 350 ≠ 8 → j % 350 < 100 → g2 70 j = g1 70 j) (q1 : ((0 ≤ A.toInt ∧ A.toInt ≤ (gi 0 5).toInt ∧ A.toInt ≤ 300) → ∀ n : Nat, (n : Int) = A.toInt → t_RSR gi gl gr sh.length (gi 2) n x1 g1 l1 r1) ∧ (¬ (0 ≤ A.toInt ∧ A.toInt ≤ (gi 0 5).toInt ∧ A.toInt ≤ 300) → x1.toInt = -1 ∧ (∀ K, K ≠ 0 → g1 K = gi K ∧ l1 K = gl K ∧ r1 K = gr K) ∧ r1 0 6 = gr 0 6 ∧ r1 0 7 = gr 0 7)) : t_DR sh1.length g2 l2 r2 := by
  simp only [Bool.and_eq_true] at hw1
  obtain ⟨n70, n19, n12⟩ := hw1
  have r70 : g1 70 = gi 70 := t_F_nc f1 n70 (by decide)
  have r12 : g1 0 12 = gi 0 12 := (f1 0 12 (by decide) (t_un_ok n12)).1
  have r19 : r1 19 = gr 19 := t_F_nr f1 n19 (by decide)
  obtain ⟨m0, m6, m12, m19⟩ := t_D_m xm hw2
  have key : r1 0 6 = gr 0 6 ∧ ∀ K, K ≠ 0 → K < sh.length → g1 K = gi K ∧ l1 K = gl K ∧ r1 K = gr K := by
    by_cases hin : 0 ≤ A.toInt ∧ A.toInt ≤ (gi 0 5).toInt ∧ A.toInt ≤ 300
    · obtain ⟨n, hn⟩ : ∃ n : Nat, (n : Int) = A.toInt := ⟨A.toInt.toNat, by omega⟩
      obtain ⟨p1, pl⟩ := q1.1 hin n hn
      refine ⟨?_, fun K a b => pl K a b⟩
      rcases p1 with ⟨k, a1, a2, a3, a4, a5, a6⟩ | ⟨p, x, a0, a1, a2, a3, a4, a5, a6⟩
      · exact a5
      · exact a5
    · have h := q1.2 hin
      exact ⟨h.2.2.1, fun K a _ => h.2.1 K a⟩
  refine t_DR_gen hD hle (fun K hK => ?_) (m6.trans key.1) (m12.trans r12) (m19.trans r19) (fun j hj a b c => ?_) hm3
  · have a := m0 K (by omega)
    have b := key.2 K (by omega) (by omega)
    exact ⟨a.1.trans b.1, a.2.1.trans b.2.1, a.2.2.trans b.2.2⟩
  · rw [em j hj a b c, r70]
theorem t_DR_mark (hR : t_R gi gr) (hD : t_DR sh.length gi gl gr) (hm0 : 0 ≤ (gi 0 12).toInt) (hm3 : (gi 0 12).toInt ≤ 3) (xh : t_X w1 sh gi gl gr g1 l1 r1) (hw1 : (t_ndB w1 && (t_un w1 (0, 6) && (t_nc w1 70 && t_un w1 (69, 75)))) = true) (xm : t_X w2 sh g1 l1 r1 g2 l2 r2) (hw2 : (t_ndB w2 && (t_un w2 (0, 6) && (t_un w2 (0, 12) && t_nc w2 19))) = true) (hc : ((gi 0 12).toInt = 3 → (g1 0 12).toInt = 3) ∧ ((gi 0 12).toInt ≠ 3 → (g1 0 12).toInt = (gi 0 12).toInt + 1)) (q1 : Q_d_mark gi gl gr x1 g1 l1 r1) (q2 : ((g1 69 75).toInt = 3 → g2 70 = g1 70) ∧ ((g1 69 75).toInt ≠ 3 → ∀ j, g2 70 j = t_cpy (g1 70) 0 ((g1 69 75).toInt.toNat + 1) 350 j)) : t_DR sh.length g2 l2 r2 := by
  simp only [Bool.and_eq_true] at hw1
  obtain ⟨n0, n6, n70, n75⟩ := hw1
  have f1 := t_F_X xh
  have c0 := t_nd_fr xh n0
  have r6 : r1 0 6 = gr 0 6 := (f1 0 6 (by decide) (t_un_ok n6)).2.2
  have r70 : g1 70 = gi 70 := t_F_nc f1 n70 (by decide)
  have r75 : (g1 69 75).toInt = (gi 0 12).toInt := by rw [(f1 69 75 (by decide) (t_un_ok n75)).1, ← t_R_mk hR]
  obtain ⟨m0, m6, m12, m19⟩ := t_D_m xm hw2
  have fr : ∀ K, (3 ≤ K ∧ K < 19) ∨ (102 ≤ K ∧ K < sh.length) → g2 K = gi K ∧ l2 K = gl K ∧ r2 K = gr K := fun K hK => by
    have a := m0 K (by omega)
    have b := c0 K (by omega)
    exact ⟨a.1.trans b.1, a.2.1.trans b.2.1, a.2.2.trans b.2.2⟩
  obtain ⟨d1, d2⟩ := q1
  obtain ⟨v, hv, hs⟩ := hD.1
  by_cases h3 : (gi 0 12).toInt = 3
  · have e70 : ∀ j, g2 70 j = gi 70 j := fun j => by rw [q2.1 (by omega), r70]
    refine ⟨⟨v, by rw [m6, r6]; exact hv, hs.fr (Nat.le_refl _) fr (fun j _ _ _ => e70 _)⟩, fun k hk => ?_⟩
    rw [m12] at hk
    obtain ⟨u, h4, h5⟩ := hD.2 k (by have := hc.1 h3; omega)
    exact ⟨u, by rw [m19, (d2 h3).1]; exact h4, h5.fr (Nat.le_refl _) fr (fun j _ _ _ => e70 _)⟩
  · have e70 : ∀ j, g2 70 j = t_cpy (gi 70) 0 ((gi 0 12).toInt.toNat + 1) 350 j := fun j => by rw [q2.2 (by omega), r70, r75]
    have ec := hc.2 h3
    have off : ∀ j, (j < 350 * ((gi 0 12).toInt.toNat + 1) ∨ 350 * ((gi 0 12).toInt.toNat + 1) + 350 ≤ j) → g2 70 j = gi 70 j := fun j hj => by
      rw [e70]; unfold t_cpy; rw [if_neg (by omega)]
    refine ⟨⟨v, by rw [m6, r6]; exact hv, hs.fr (Nat.le_refl _) fr (fun j _ _ _ => off _ (by omega))⟩, fun k hk => ?_⟩
    rw [m12] at hk
    by_cases hkm : (k : Int) = (gi 0 12).toInt
    · refine ⟨v, by rw [m19, (d1 h3).1, if_pos hkm]; exact hv, hs.fr (Nat.le_refl _) fr (fun j hj _ _ => ?_)⟩
      rw [e70]; unfold t_cpy
      rw [if_pos (by omega), show 350 * (k + 1) + j - 350 * ((gi 0 12).toInt.toNat + 1) + 350 * 0 = 0 + j by omega]
    · obtain ⟨u, h4, h5⟩ := hD.2 k (by omega)
      exact ⟨u, by rw [m19, (d1 h3).1, if_neg hkm]; exact h4, h5.fr (Nat.le_refl _) fr (fun j hj _ _ => off _ (by omega))⟩
theorem t_DR_back (hR : t_R gi gr) (hD : t_DR sh.length gi gl gr) (hm0 : 0 ≤ (gi 0 12).toInt) (hm3 : (gi 0 12).toInt ≤ 3) (xh : t_X w1 sh gi gl gr g1 l1 r1) (hw1 : (t_ndB w1 && (t_nc w1 19 && (t_nc w1 70 && t_un w1 (69, 75)))) = true) (xm : t_X w2 sh g1 l1 r1 g2 l2 r2) (hw2 : (t_ndB w2 && (t_un w2 (0, 6) && (t_un w2 (0, 12) && t_nc w2 19))) = true) (hc : ((gi 0 12).toInt = 0 → (g1 0 12).toInt = 0) ∧ ((gi 0 12).toInt ≠ 0 → (g1 0 12).toInt = (gi 0 12).toInt - 1)) (q1 : Q_d_back gi gl gr x1 g1 l1 r1) (q2 : ((g1 69 75).toInt = 0 → g2 70 = g1 70) ∧ ((g1 69 75).toInt ≠ 0 → ∀ j, g2 70 j = t_cpy (g1 70) (g1 69 75).toInt.toNat 0 350 j)) : t_DR sh.length g2 l2 r2 := by
  simp only [Bool.and_eq_true] at hw1
  obtain ⟨n0, n19, n70, n75⟩ := hw1
  have f1 := t_F_X xh
  have c0 := t_nd_fr xh n0
  have r19 : r1 19 = gr 19 := t_F_nr f1 n19 (by decide)
  have r70 : g1 70 = gi 70 := t_F_nc f1 n70 (by decide)
  have r75 : (g1 69 75).toInt = (gi 0 12).toInt := by rw [(f1 69 75 (by decide) (t_un_ok n75)).1, ← t_R_mk hR]
  obtain ⟨m0, m6, m12, m19⟩ := t_D_m xm hw2
  have fr : ∀ K, (3 ≤ K ∧ K < 19) ∨ (102 ≤ K ∧ K < sh.length) → g2 K = gi K ∧ l2 K = gl K ∧ r2 K = gr K := fun K hK => by
    have a := m0 K (by omega)
    have b := c0 K (by omega)
    exact ⟨a.1.trans b.1, a.2.1.trans b.2.1, a.2.2.trans b.2.2⟩
  obtain ⟨d1, d2⟩ := q1
  by_cases h3 : (gi 0 12).toInt = 0
  · obtain ⟨v, hv, hs⟩ := hD.1
    have e70 : ∀ j, g2 70 j = gi 70 j := fun j => by rw [q2.1 (by omega), r70]
    refine ⟨⟨v, by rw [m6, (d1 h3).1]; exact hv, hs.fr (Nat.le_refl _) fr (fun j _ _ _ => e70 _)⟩, fun k hk => ?_⟩
    rw [m12] at hk
    have := hc.1 h3
    omega
  · have e70 : ∀ j, g2 70 j = t_cpy (gi 70) (gi 0 12).toInt.toNat 0 350 j := fun j => by rw [q2.2 (by omega), r70, r75]
    have ec := hc.2 h3
    have off : ∀ j, 350 ≤ j → g2 70 j = gi 70 j := fun j hj => by
      rw [e70]; unfold t_cpy; rw [if_neg (by omega)]
    obtain ⟨v, hv, hs⟩ := hD.2 ((gi 0 12).toInt - 1).toNat (by omega)
    refine ⟨⟨v, by rw [m6, (d2 h3).1]; exact hv, hs.fr (Nat.le_refl _) fr (fun j hj _ _ => ?_)⟩, fun k hk => ?_⟩
    · rw [e70]; unfold t_cpy
      rw [if_pos (by omega), show 0 + j - 350 * 0 + 350 * (gi 0 12).toInt.toNat = 350 * (((gi 0 12).toInt - 1).toNat + 1) + j by omega]
    · rw [m12] at hk
      obtain ⟨u, h4, h5⟩ := hD.2 k (by omega)
      exact ⟨u, by rw [m19, r19]; exact h4, h5.fr (Nat.le_refl _) fr (fun j hj _ _ => off _ (by omega))⟩
/-- a sail is one or none -/
theorem t_D_sail {D : s_D} (hI : t_I sh gi gr) (hb : t_Cb D) (hm : t_ME 0 gi D) : ∀ s : Nat, (s : Int) < D 1 → 0 ≤ D (56 + 5 * s) ∧ D (56 + 5 * s) ≤ 1 := by
  intro s hs
  have h1 := hm.2.2.1 (56 + 5 * s) (by omega) (by omega)
  rw [Nat.zero_add] at h1
  have hs6 : s = 0 ∨ s = 1 ∨ s = 2 ∨ s = 3 ∨ s = 4 ∨ s = 5 := by have := hb.2.1.2; omega
  have key : 0 ≤ (gi 70 (56 + 5 * s)).toInt ∧ (gi 70 (56 + 5 * s)).toInt ≤ 1 := by
    rcases hs6 with rfl | rfl | rfl | rfl | rfl | rfl
    · exact hI.ab (i := 56) (j := 56) (by decide +kernel) (Nat.le_refl _) (Nat.le_refl _)
    · exact hI.ab (i := 61) (j := 61) (by decide +kernel) (Nat.le_refl _) (Nat.le_refl _)
    · exact hI.ab (i := 66) (j := 66) (by decide +kernel) (Nat.le_refl _) (Nat.le_refl _)
    · exact hI.ab (i := 71) (j := 71) (by decide +kernel) (Nat.le_refl _) (Nat.le_refl _)
    · exact hI.ab (i := 76) (j := 76) (by decide +kernel) (Nat.le_refl _) (Nat.le_refl _)
    · exact hI.ab (i := 81) (j := 81) (by decide +kernel) (Nat.le_refl _) (Nat.le_refl _)
  rw [h1] at key
  exact key
/-- the slot of the other side behind the class's call -/
theorem t_D_0 (hD : t_DR sh.length gi gl gr) (f1 : t_F w1 gi gl gr g1 l1 r1) (h70 : t_nc w1 70 = true) : ∃ (u : Nat) (D : s_D), gr 0 6 = .ref u ∧ t_VL gr u ∧ t_CV gi gl u D ∧ t_Cb D ∧ t_ME 0 g1 D ∧ t_ME 0 gi D := by
  obtain ⟨u, hu, D, hb, -, hl, hc, hm⟩ := hD.1
  have r70 : g1 70 = gi 70 := t_F_nc f1 h70 (by decide)
  exact ⟨u, D, hu, hl, hc, hb, by unfold t_ME; rw [r70]; exact hm, hm⟩
theorem t_L_ship (hI : t_I sh gi gr) (hD : t_DR sh.length gi gl gr) (f1 : t_F w1 gi gl gr g1 l1 r1) (h70 : t_nc w1 70 = true) (q1 : Q_d_ship gi gl gr A A2 x1 g1 l1 r1) (q2 : Q_e_ship g1 l1 r1 A A2 x2 g2 l2 r2) : x1 = x2 := by
  obtain ⟨u, D, hu, hl, hc, hb, hm, hm'⟩ := t_D_0 hD f1 h70
  have k1 := q1 u D hu hl hc hb (t_D_sail hI hb hm')
  have k2 := q2 D hm hb
  apply Int32.toInt_inj.mp
  by_cases hin : 0 ≤ A.toInt ∧ A.toInt < D 1 ∧ 0 ≤ A2.toInt ∧ A2.toInt ≤ 4
  · rw [k1.1 hin, k2.1 hin]
  · rw [k1.2 hin, k2.2 hin]
theorem t_L_cart (hD : t_DR sh.length gi gl gr) (f1 : t_F w1 gi gl gr g1 l1 r1) (h70 : t_nc w1 70 = true) (q1 : Q_d_cart gi gl gr A A2 x1 g1 l1 r1) (q2 : Q_e_cart g1 l1 r1 A A2 x2 g2 l2 r2) : x1 = x2 := by
  obtain ⟨u, D, hu, hl, hc, hb, hm, -⟩ := t_D_0 hD f1 h70
  have k1 := q1 u D hu hl hc hb
  have k2 := q2 D hm hb
  apply Int32.toInt_inj.mp
  by_cases hin : 0 ≤ A.toInt ∧ A.toInt < D 2 ∧ 0 ≤ A2.toInt ∧ A2.toInt ≤ 2
  · rw [k1.1 hin, k2.1 hin]
  · rw [k1.2 hin, k2.2 hin]
end DLAW
/-! ===== RIVERS: the start; RULES' places ===== -/
noncomputable def t_nGB (wl : List (Nat × Nat)) (k lo hi : Nat) : Bool := wl.all (fun q => !(q.1 == k) || (!(q.2 == 9999) && (if q.2 < 10000 then decide (q.2 < lo) || decide (hi ≤ q.2) else decide ((q.2 - 10000) % 100000 < lo) || decide (hi ≤ (q.2 - 10000) / 100000))))
theorem t_nD {wl : List (Nat × Nat)} (h : (t_nGB wl 70 0 3 && (t_nGB wl 70 4 8 && (t_nGB wl 70 9 100 && t_nGB wl 70 350 1400))) = true) {j : Nat} (a : j < 1400) (b : j % 350 ≠ 3) (c : j % 350 ≠ 8) (d : j % 350 < 100) : t_in wl 70 j = false := by
  simp only [Bool.and_eq_true] at h
  obtain ⟨h1, h2, h3, h4⟩ := h
  by_cases q : 350 ≤ j
  · exact t_nG h4 q a
  · have e : j % 350 = j := Nat.mod_eq_of_lt (by omega)
    rw [e] at b c d
    by_cases q1 : j < 3
    · exact t_nG h1 (Nat.zero_le _) q1
    · by_cases q2 : j < 8
      · exact t_nG h2 (by omega) q2
      · exact t_nG h3 (by omega) d
theorem W1_DR {sh : List (Nat ⊕ (Nat × Nat))} {gi : Nat → Nat → Int32} {gl : Nat → Nat → Int64} {gr : Nat → Nat → Value} (hR : x_R W1 (sh, gi, gl, gr)) : t_DR sh.length gi gl gr := by
  have hw := W1_WF hR
  have hrd : ∀ {k j : Nat} {c : x_C}, x_gc W1 k = some c → j < 2 ^ x_dp c.1 → gi k j = x_cI c j := fun hc hj => ((x_gc_R hR hc).2.2.2 _ hj).1
  have hl : 102 ≤ sh.length := t_102 hw
  have z3 : ∀ {j : Nat} {x : Int32}, j < 2 ^ x_dp w1_c3.1 → x_cI w1_c3 j = x → gi 3 j = x := fun hj e => (hrd (c := w1_c3) rfl hj).trans e
  have z70 : ∀ {j : Nat} {x : Int32}, j < 2 ^ x_dp w1_c70.1 → x_cI w1_c70 j = x → gi 70 j = x := fun hj e => (hrd (c := w1_c70) rfl hj).trans e
  refine ⟨⟨3, ((x_gc_R hR (c := w1_c0) rfl).2.2.2 6 (by decide)).2.2.trans rfl, s_D0, ⟨⟨by decide, by decide⟩, ⟨by decide, by decide⟩, by decide, by decide⟩, ⟨Or.inl rfl, by omega⟩, ⟨⟨hw.r rfl, hw.r rfl, hw.r rfl, hw.r rfl, hw.r rfl⟩, ⟨hw.r rfl, hw.r rfl, hw.r rfl, hw.r rfl, hw.r rfl⟩, hw.r rfl, hw.r rfl, hw.r rfl, hw.r rfl, hw.r rfl⟩, ?_, ?_⟩, fun k hk => ?_⟩
  · have a0 : gi 3 0 = 0 := z3 (by decide) rfl
    have a3 : gi 3 3 = 5 := z3 (by decide) rfl
    have a4 : gi 3 4 = 0 := z3 (by decide) rfl
    have a5 : gi 3 5 = 0 := z3 (by decide) rfl
    have a6 : gi 3 6 = 0 := z3 (by decide) rfl
    have b0 : gi 6 0 = 0 := (hrd (c := w1_c6) rfl (by decide)).trans rfl
    have c0 : gi 13 0 = 0 := (hrd (c := w1_c13) rfl (by decide)).trans rfl
    refine ⟨⟨by rw [a0]; rfl, fun i hi => absurd (show (i : Int) < 0 from hi) (by omega)⟩, ⟨by rw [a3]; rfl, by rw [a4]; rfl, by rw [a5]; rfl, by rw [a6]; rfl⟩, ⟨?_, fun i hi => absurd (show (i : Int) < 0 from hi) (by omega)⟩, ?_, fun i hi => absurd (show (i : Int) < 0 from hi) (by omega)⟩
    · show (gi 6 0).toInt = 0; rw [b0]; rfl
    · show (gi 13 0).toInt = 0; rw [c0]; rfl
  · have a0 : gi 70 0 = 0 := z70 (by decide) rfl
    have a1 : gi 70 1 = 0 := z70 (by decide) rfl
    have a2 : gi 70 2 = 0 := z70 (by decide) rfl
    have a4 : gi 70 4 = 5 := z70 (by decide) rfl
    have a5 : gi 70 5 = 0 := z70 (by decide) rfl
    have a6 : gi 70 6 = 0 := z70 (by decide) rfl
    have a7 : gi 70 7 = 0 := z70 (by decide) rfl
    refine ⟨⟨⟨by rw [a0]; rfl, ?_, ?_⟩, ?_, ?_, ?_, ?_⟩, fun i hi => absurd (show (i : Int) < 0 from hi) (by omega), fun j hj hj2 => ?_, fun j hj hj2 => ?_⟩
    · show (gi 70 1).toInt = 0; rw [a1]; rfl
    · show (gi 70 2).toInt = 0; rw [a2]; rfl
    · show (gi 70 4).toInt = 5; rw [a4]; rfl
    · show (gi 70 5).toInt = 0; rw [a5]; rfl
    · show (gi 70 6).toInt = 0; rw [a6]; rfl
    · show (gi 70 7).toInt = 0; rw [a7]; rfl
    · have h : (j : Int) < 52 + 5 * 0 := hj2
      omega
    · have h : (j : Int) < 82 + 3 * 0 := hj2
      omega
  · have h12 : gi 0 12 = 0 := hrd (c := w1_c0) rfl (by decide)
    have h0 : (0 : Int32).toInt = 0 := rfl
    rw [h12] at hk; omega
noncomputable def t_LD (c : Nat) (sh : List (Nat ⊕ (Nat × Nat))) (gi : Nat → Nat → Int32) (gl : Nat → Nat → Int64) (gr : Nat → Nat → Value) : Prop := t_LT c sh gi gl gr ∧ t_DR sh.length gi gl gr
/-! ===== a text refused ahead: nothing of the FAULT is touched; rules() answers alike ===== -/
theorem c_n_begins0 {X : x_Ext} {d : Nat} {sh : List (Nat ⊕ (Nat × Nat))} {gi : Nat → Nat → Int32} {gl : Nat → Nat → Int64} {gr : Nat → Nat → Value} (hI : t_I sh gi gr) (ar1 ar2 : Int32) (hn : ¬ (0 ≤ ar1.toInt ∧ ar1.toInt ≤ (gi 69 10).toInt ∧ ar1.toInt ≤ ar2.toInt)) : x_Me X (d + 3) n_X12_begins [.ref 69, .int ar1, .int ar2] (sh, gi, gl, gr) (t_PI [] sh gi gl gr 0 0 (fun _ _ _ _ => True)) := by
  have kf0 : (0 : Int32).toInt = 0 := (by decide)
  refine me_i f_X12_begins (hI.wf.s rfl) rfl rfl rfl ?_
  refine ev_loc f_X12_begins (nx := 1) rfl rfl rfl rfl ?_
  refine ev_if f_X12_begins (t1 := 17) (t2 := 4) rfl rfl rfl (fun h1 => ?_) (fun h1 => ?_)
  · refine ev_ic f_X12_begins (nx := 18) (v := 0) rfl (by decide) rfl ?_
    exact ev_ret f_X12_begins rfl rfl rfl ⟨_, _, _, rfl, hI, t_X.rf, ⟨_, rfl, by decide, by decide, trivial⟩⟩
  have h1 := Int32.le_iff_toInt_le.mp (t_nlt h1)
  refine ev_loc f_X12_begins (nx := 5) rfl rfl rfl rfl ?_
  refine ev_loc f_X12_begins (nx := 6) rfl rfl rfl rfl ?_
  refine ev_gvI f_X12_begins (nx := 9) (w := (gi 69 10)) rfl (hI.wf.s rfl) rfl rfl rfl rfl ?_
  refine ev_if f_X12_begins (t1 := 17) (t2 := 12) rfl rfl rfl (fun h2 => ?_) (fun h2 => ?_)
  · refine ev_ic f_X12_begins (nx := 18) (v := 0) rfl (by decide) rfl ?_
    exact ev_ret f_X12_begins rfl rfl rfl ⟨_, _, _, rfl, hI, t_X.rf, ⟨_, rfl, by decide, by decide, trivial⟩⟩
  have h2 := Int32.le_iff_toInt_le.mp (t_nlt h2)
  refine ev_loc f_X12_begins (nx := 13) rfl rfl rfl rfl ?_
  refine ev_loc f_X12_begins (nx := 14) rfl rfl rfl rfl ?_
  refine ev_if f_X12_begins (t1 := 19) (t2 := 17) rfl rfl rfl (fun h3 => ?_) (fun h3 => ?_)
  · exact absurd (show (0 ≤ ar1.toInt ∧ ar1.toInt ≤ (gi 69 10).toInt ∧ ar1.toInt ≤ ar2.toInt) from ⟨by omega, by omega, Int32.le_iff_toInt_le.mp h3⟩) hn
  · refine ev_ic f_X12_begins (nx := 18) (v := 0) rfl (by decide) rfl ?_
    exact ev_ret f_X12_begins rfl rfl rfl ⟨_, _, _, rfl, hI, t_X.rf, ⟨_, rfl, by decide, by decide, trivial⟩⟩
theorem c_n_riverF {X : x_Ext} {d : Nat} {sh : List (Nat ⊕ (Nat × Nat))} {gi : Nat → Nat → Int32} {gl : Nat → Nat → Int64} {gr : Nat → Nat → Value} (hI : t_I sh gi gr) (ar1 : Int32) : x_Me X (d + 10) n_X12_river [.ref 69, .int ar1] (sh, gi, gl, gr) (t_PI wl_n_river sh gi gl gr (-1) 6 (fun v g l r => Q_n_river gi gl gr ar1 v g l r ∧ (¬ (0 ≤ ar1.toInt ∧ ar1.toInt ≤ (gi 69 10).toInt) → g 69 16 = gi 69 16 ∧ g 69 17 = gi 69 17))) := by
  by_cases hin : (0 ≤ ar1.toInt ∧ ar1.toInt ≤ (gi 69 10).toInt)
  · refine (c_n_river hI ar1).mono ?_
    rintro v G1 ⟨g1, l1, r1, rfl, k1, k2, x, rfl, a, b, q⟩
    exact ⟨g1, l1, r1, rfl, k1, k2, x, rfl, a, b, q, fun hh => absurd hin hh⟩
  have hX : t_X wl_n_river sh gi gl gr gi gl gr := t_X.rf
  have hu := hI.b (hI.wf.s (k := 69) rfl) (t_bdK rfl : t_bd 11 10 = some (0, 900))
  have km : (900 : Int32).toInt = 900 := rfl
  have kf0 : (0 : Int32).toInt = 0 := (by decide)
  refine me_i f_X12_river (hI.wf.s rfl) rfl rfl rfl ?_
  refine ev_loc f_X12_river (nx := 1) rfl rfl rfl rfl ?_
  refine ev_loc f_X12_river (nx := 2) rfl rfl rfl rfl ?_
  refine ev_sp f_X12_river (nx := 5) (v := 900) rfl (by decide) rfl ?_
  refine ev_qI0 f_X12_river (nx := 8) (r := []) rfl rfl rfl rfl rfl rfl rfl (c_n_begins0 hI ar1 900 (fun h => hin (by omega))) rfl (fun w lw uw _ => ?_)
  refine ev_if f_X12_river (t1 := 11) (t2 := 17) rfl rfl rfl (fun h3 => ?_) (fun h3 => ?_)
  rotate_left
  · exact absurd (Int32.toInt_inj.mp (by omega)) h3
  refine ev_loc f_X12_river (nx := 12) rfl rfl rfl rfl ?_
  refine ev_ic f_X12_river (nx := 13) (v := 1) rfl (by decide) rfl ?_
  refine ev_inV2 f_X12_river (nx := 16) (lo2 := [(0, .ref 69), (1, .int 1)]) rfl rfl rfl rfl f_X12_refuse (hI.wf.s rfl) rfl rfl rfl rfl rfl ?_
  refine ev_loc f_X12_refuse (nx := 1) rfl rfl rfl rfl ?_
  refine ev_loc f_X12_refuse (nx := 2) rfl rfl rfl rfl ?_
  refine ev_putIT f_X12_refuse (nx := 5) rfl (hI.wf.s rfl) rfl rfl rfl (hI.put0 (hI.wf.s rfl) rfl rfl) (hX.upI rfl) (fun g4 e4 hI hX => ?_)
  refine ev_ic f_X12_refuse (nx := 6) (v := -1) rfl (by decide) rfl ?_
  refine ev_retK1 f_X12_refuse rfl rfl rfl ?_
  exact ev_ret f_X12_river rfl rfl rfl ⟨_, _, _, rfl, hI, hX, ⟨_, rfl, by decide, by decide, And.intro (And.intro (fun hh => absurd hh hin) (fun _ => And.intro rfl (fun j _ => by rw [e4, x_up2_ne (by decide)]))) (fun _ => ⟨by rw [e4]; exact x_up2_off (Or.inr (by decide)), by rw [e4]; exact x_up2_off (Or.inr (by decide))⟩)⟩⟩
theorem c_n_rulesF {X : x_Ext} {d : Nat} {sh : List (Nat ⊕ (Nat × Nat))} {gi : Nat → Nat → Int32} {gl : Nat → Nat → Int64} {gr : Nat → Nat → Value} (hI : t_I sh gi gr) (ar1 : Int32) : x_Me X (d + 9) n_X12_rules [.ref 69, .int ar1] (sh, gi, gl, gr) (t_PI wl_n_rules sh gi gl gr (-1) 12 (fun v g l r => Q_n_rules gi gl gr ar1 v g l r ∧ (¬ (0 ≤ ar1.toInt ∧ ar1.toInt ≤ (gi 69 10).toInt ∧ ar1.toInt ≤ 300) → g 69 16 = gi 69 16 ∧ g 69 17 = gi 69 17))) := by
  by_cases hin : (0 ≤ ar1.toInt ∧ ar1.toInt ≤ (gi 69 10).toInt ∧ ar1.toInt ≤ 300)
  · refine (c_n_rules hI ar1).mono ?_
    rintro v G1 ⟨g1, l1, r1, rfl, k1, k2, x, rfl, a, b, q⟩
    exact ⟨g1, l1, r1, rfl, k1, k2, x, rfl, a, b, q, fun hh => absurd hin hh⟩
  have hX : t_X wl_n_rules sh gi gl gr gi gl gr := t_X.rf
  have hu := hI.b (hI.wf.s (k := 69) rfl) (t_bdK rfl : t_bd 11 10 = some (0, 900))
  have km : (300 : Int32).toInt = 300 := rfl
  have kf0 : (0 : Int32).toInt = 0 := (by decide)
  refine me_i f_X12_rules (hI.wf.s rfl) rfl rfl rfl ?_
  refine ev_loc f_X12_rules (nx := 1) rfl rfl rfl rfl ?_
  refine ev_loc f_X12_rules (nx := 2) rfl rfl rfl rfl ?_
  refine ev_sp f_X12_rules (nx := 5) (v := 300) rfl (by decide) rfl ?_
  refine ev_qI0 f_X12_rules (nx := 8) (r := []) rfl rfl rfl rfl rfl rfl rfl (c_n_begins0 hI ar1 300 (fun h => hin (by omega))) rfl (fun w lw uw _ => ?_)
  refine ev_if f_X12_rules (t1 := 11) (t2 := 17) rfl rfl rfl (fun h3 => ?_) (fun h3 => ?_)
  rotate_left
  · exact absurd (Int32.toInt_inj.mp (by omega)) h3
  refine ev_loc f_X12_rules (nx := 12) rfl rfl rfl rfl ?_
  refine ev_ic f_X12_rules (nx := 13) (v := 1) rfl (by decide) rfl ?_
  refine ev_inV2 f_X12_rules (nx := 16) (lo2 := [(0, .ref 69), (1, .int 1)]) rfl rfl rfl rfl f_X12_refuse (hI.wf.s rfl) rfl rfl rfl rfl rfl ?_
  refine ev_loc f_X12_refuse (nx := 1) rfl rfl rfl rfl ?_
  refine ev_loc f_X12_refuse (nx := 2) rfl rfl rfl rfl ?_
  refine ev_putIT f_X12_refuse (nx := 5) rfl (hI.wf.s rfl) rfl rfl rfl (hI.put0 (hI.wf.s rfl) rfl rfl) (hX.upI rfl) (fun g4 e4 hI hX => ?_)
  refine ev_ic f_X12_refuse (nx := 6) (v := -1) rfl (by decide) rfl ?_
  refine ev_retK1 f_X12_refuse rfl rfl rfl ?_
  exact ev_ret f_X12_rules rfl rfl rfl ⟨_, _, _, rfl, hI, hX, ⟨_, rfl, by decide, by decide, And.intro (And.intro (fun hh => absurd hh hin) (fun _ => And.intro rfl (And.intro (by rw [e4, x_up2_ne (by decide)]) (by rw [e4, x_up2_ne (by decide)])))) (fun _ => ⟨by rw [e4]; exact x_up2_off (Or.inr (by decide)), by rw [e4]; exact x_up2_off (Or.inr (by decide))⟩)⟩⟩
theorem c_s_riverF {X : x_Ext} {d : Nat} {sh : List (Nat ⊕ (Nat × Nat))} {gi : Nat → Nat → Int32} {gl : Nat → Nat → Int64} {gr : Nat → Nat → Value} (hI : t_I sh gi gr) (hH : t_H sh) (ar1 : Int32) : x_Me X (d + 11) n_X11_river [.ref 0, .int ar1] (sh, gi, gl, gr) (fun v G1 => ∃ sh1 g l r x, G1 = (sh1, g, l, r) ∧ v = some (.int x) ∧ (((0 ≤ ar1.toInt ∧ ar1.toInt ≤ (gi 0 5).toInt) → ∀ n : Nat, (n : Int) = ar1.toInt → t_RES gi gl gr sh.length (gi 2) n x g l r) ∧ (¬ (0 ≤ ar1.toInt ∧ ar1.toInt ≤ (gi 0 5).toInt) → x.toInt = -1 ∧ (∀ K, K ≠ 0 → g K = gi K ∧ l K = gl K ∧ r K = gr K) ∧ r 0 6 = gr 0 6 ∧ r 0 7 = gr 0 7) ∧ ((0 ≤ ar1.toInt ∧ ar1.toInt ≤ (gi 0 5).toInt) → sh.length + 18 ≤ sh1.length)) ∧ (¬ (0 ≤ ar1.toInt ∧ ar1.toInt ≤ (gi 0 5).toInt) → g 0 8 = gi 0 8 ∧ g 0 9 = gi 0 9)) := by
  by_cases hin : (0 ≤ ar1.toInt ∧ ar1.toInt ≤ (gi 0 5).toInt)
  · refine (c_s_river hI hH ar1).mono ?_
    rintro v G1 ⟨sh1, g, l, r, x, e1, e2, h⟩
    exact ⟨sh1, g, l, r, x, e1, e2, h, fun hh => absurd hin hh⟩
  have kf0 : (0 : Int32).toInt = 0 := (by decide)
  refine me_i f_X11_river (hI.wf.s rfl) rfl rfl rfl ?_
  refine ev_loc f_X11_river (nx := 1) rfl rfl rfl rfl ?_
  refine ev_if f_X11_river (t1 := 12) (t2 := 4) rfl rfl rfl (fun h1 => ?_) (fun h1 => ?_)
  · refine x_Ev.mono (x_Ev.up (c_t_riverN (d := d) hI ar1) (by omega)) ?_
    rintro v G1 ⟨g1, l1, r1, rfl, k1, k2, x, rfl, -, -, k3⟩
    exact ⟨sh, g1, l1, r1, x, rfl, rfl, ⟨fun hi => absurd hi hin, fun _ => ⟨k3, fun K hK => t_row0 k2 rfl hK, (k2.1 0 6 rfl).2.2, (k2.1 0 7 rfl).2.2⟩, fun hi => absurd hi hin⟩, fun _ => ⟨(k2.1 0 8 rfl).1, (k2.1 0 9 rfl).1⟩⟩
  have h1 := Int32.le_iff_toInt_le.mp (t_nlt h1)
  refine ev_loc f_X11_river (nx := 5) rfl rfl rfl rfl ?_
  refine ev_loc f_X11_river (nx := 6) rfl rfl rfl rfl ?_
  refine ev_getI f_X11_river (nx := 9) rfl (hI.wf.s rfl) rfl rfl rfl ?_
  refine ev_if f_X11_river (t1 := 18) (t2 := 12) rfl rfl rfl (fun h2 => ?_) (fun h2 => ?_)
  · exact absurd (show (0 ≤ ar1.toInt ∧ ar1.toInt ≤ (gi 0 5).toInt) from ⟨by omega, Int32.le_iff_toInt_le.mp h2⟩) hin
  · refine x_Ev.mono (x_Ev.up (c_t_riverN (d := d) hI ar1) (by omega)) ?_
    rintro v G1 ⟨g1, l1, r1, rfl, k1, k2, x, rfl, -, -, k3⟩
    exact ⟨sh, g1, l1, r1, x, rfl, rfl, ⟨fun hi => absurd hi hin, fun _ => ⟨k3, fun K hK => t_row0 k2 rfl hK, (k2.1 0 6 rfl).2.2, (k2.1 0 7 rfl).2.2⟩, fun hi => absurd hi hin⟩, fun _ => ⟨(k2.1 0 8 rfl).1, (k2.1 0 9 rfl).1⟩⟩
theorem c_u_rulesF {X : x_Ext} {d : Nat} {sh : List (Nat ⊕ (Nat × Nat))} {gi : Nat → Nat → Int32} {gl : Nat → Nat → Int64} {gr : Nat → Nat → Value} (hI : t_I sh gi gr) (hH : t_H sh) (ar1 : Int32) : x_Me X (d + 70) n_X11_rules [.ref 0, .int ar1] (sh, gi, gl, gr) (fun v G1 => ∃ sh1 g l r x, G1 = (sh1, g, l, r) ∧ v = some (.int x) ∧ (((0 ≤ ar1.toInt ∧ ar1.toInt ≤ (gi 0 5).toInt ∧ ar1.toInt ≤ 300) → ∀ n : Nat, (n : Int) = ar1.toInt → t_RSR gi gl gr sh.length (gi 2) n x g l r) ∧ (¬ (0 ≤ ar1.toInt ∧ ar1.toInt ≤ (gi 0 5).toInt ∧ ar1.toInt ≤ 300) → x.toInt = -1 ∧ (∀ K, K ≠ 0 → g K = gi K ∧ l K = gl K ∧ r K = gr K) ∧ r 0 6 = gr 0 6 ∧ r 0 7 = gr 0 7)) ∧ (¬ (0 ≤ ar1.toInt ∧ ar1.toInt ≤ (gi 0 5).toInt ∧ ar1.toInt ≤ 300) → g 0 8 = gi 0 8 ∧ g 0 9 = gi 0 9)) := by
  by_cases hin : (0 ≤ ar1.toInt ∧ ar1.toInt ≤ (gi 0 5).toInt ∧ ar1.toInt ≤ 300)
  · refine (c_u_rules hI hH ar1).mono ?_
    rintro v G1 ⟨sh1, g, l, r, x, e1, e2, h⟩
    exact ⟨sh1, g, l, r, x, e1, e2, h, fun hh => absurd hin hh⟩
  have kf0 : (0 : Int32).toInt = 0 := (by decide)
  refine me_i f_X11_rules (hI.wf.s rfl) rfl rfl rfl ?_
  refine ev_loc f_X11_rules (nx := 1) rfl rfl rfl rfl ?_
  refine ev_if f_X11_rules (t1 := 19) (t2 := 4) rfl rfl rfl (fun h1 => ?_) (fun h1 => ?_)
  · refine x_Ev.mono (x_Ev.up (c_t_rulesN (d := d) hI ar1) (by omega)) ?_
    rintro v G1 ⟨g1, l1, r1, rfl, k1, k2, x, rfl, -, -, k3⟩
    exact ⟨sh, g1, l1, r1, x, rfl, rfl, ⟨fun hi => absurd hi hin, fun _ => ⟨k3, fun K hK => t_row0 k2 rfl hK, (k2.1 0 6 rfl).2.2, (k2.1 0 7 rfl).2.2⟩⟩, fun _ => ⟨(k2.1 0 8 rfl).1, (k2.1 0 9 rfl).1⟩⟩
  have h1 := Int32.le_iff_toInt_le.mp (t_nlt h1)
  refine ev_loc f_X11_rules (nx := 5) rfl rfl rfl rfl ?_
  refine ev_loc f_X11_rules (nx := 6) rfl rfl rfl rfl ?_
  refine ev_getI f_X11_rules (nx := 9) rfl (hI.wf.s rfl) rfl rfl rfl ?_
  refine ev_if f_X11_rules (t1 := 19) (t2 := 12) rfl rfl rfl (fun h2 => ?_) (fun h2 => ?_)
  · refine x_Ev.mono (x_Ev.up (c_t_rulesN (d := d) hI ar1) (by omega)) ?_
    rintro v G1 ⟨g1, l1, r1, rfl, k1, k2, x, rfl, -, -, k3⟩
    exact ⟨sh, g1, l1, r1, x, rfl, rfl, ⟨fun hi => absurd hi hin, fun _ => ⟨k3, fun K hK => t_row0 k2 rfl hK, (k2.1 0 6 rfl).2.2, (k2.1 0 7 rfl).2.2⟩⟩, fun _ => ⟨(k2.1 0 8 rfl).1, (k2.1 0 9 rfl).1⟩⟩
  have h2 := Int32.le_iff_toInt_le.mp (t_nlt h2)
  refine ev_loc f_X11_rules (nx := 13) rfl rfl rfl rfl ?_
  refine ev_sp f_X11_rules (nx := 16) (v := 300) rfl (by decide) rfl ?_
  refine ev_if f_X11_rules (t1 := 25) (t2 := 19) rfl rfl rfl (fun h3 => ?_) (fun h3 => ?_)
  · have h3 := Int32.le_iff_toInt_le.mp h3
    have k3 : (300 : Int32).toInt = 300 := rfl
    exact absurd (show (0 ≤ ar1.toInt ∧ ar1.toInt ≤ (gi 0 5).toInt ∧ ar1.toInt ≤ 300) from ⟨by omega, by omega, by omega⟩) hin
  · refine x_Ev.mono (x_Ev.up (c_t_rulesN (d := d) hI ar1) (by omega)) ?_
    rintro v G1 ⟨g1, l1, r1, rfl, k1, k2, x, rfl, -, -, k3⟩
    exact ⟨sh, g1, l1, r1, x, rfl, rfl, ⟨fun hi => absurd hi hin, fun _ => ⟨k3, fun K hK => t_row0 k2 rfl hK, (k2.1 0 6 rfl).2.2, (k2.1 0 7 rfl).2.2⟩⟩, fun _ => ⟨(k2.1 0 8 rfl).1, (k2.1 0 9 rfl).1⟩⟩
section LRU
variable {gi g1 g2 : Nat → Nat → Int32} {gl l1 l2 : Nat → Nat → Int64} {gr r1 r2 : Nat → Nat → Value} {w1 w2 : List (Nat × Nat)} {A x1 x2 : Int32} {N N2 : Nat}
theorem s_rls_ob {b : Nat → Int32} {n p : Nat} {k : Nat} {x : Int} (hx : x ≠ 0) (h : (((0 : Int), (0 : Int)), k) = ((s_qb b n p x).1, 0)) : False :=
  s_fk_ne (b := b) (n := n) (p := p) hx (congrArg (fun r : (Int × Int) × Nat => r.1.1) h).symm
/-- what both come to -/
theorem t_RU_two (hT : t_TP gi) (hR : t_R gi gr) (f1 : t_F w1 gi gl gr g1 l1 r1) (h75 : t_nc w1 75 = true) (h69 : t_in w1 69 10 = false) (hin : 0 ≤ A.toInt ∧ A.toInt ≤ (gi 0 5).toInt ∧ A.toInt ≤ 300) (q1 : (0 ≤ A.toInt ∧ A.toInt ≤ (gi 0 5).toInt ∧ A.toInt ≤ 300) → ∀ n : Nat, (n : Int) = A.toInt → t_RSR gi gl gr N (gi 2) n x1 g1 l1 r1) (q2 : Q_n_rules g1 l1 r1 A x2 g2 l2 r2) : (∃ k : Nat, (x1.toInt = (k : Int) ∧ x2.toInt = (k : Int)) ∧ ((g1 0 8).toInt = 0 ∧ (g1 0 9).toInt = -1) ∧ ((g2 69 16).toInt = 0 ∧ (g2 69 17).toInt = -1) ∧ (r1 0 7 = .ref (N + 2) ∧ (g1 (N + 2) 0).toInt = (k : Int)) ∧ ((g2 70 3).toInt = (k : Int) ∧ (g2 70 8).toInt = 1)) ∨ ((x1.toInt = -1 ∧ x2.toInt = -1) ∧ ((g1 0 8).toInt = (g2 69 16).toInt ∧ (g1 0 9).toInt = (g2 69 17).toInt) ∧ r1 0 7 = gr 0 7 ∧ (g2 70 3 = g1 70 3 ∧ g2 70 8 = g1 70 8)) := by
  have e0 : (gi 0 5).toInt = (gi 69 10).toInt := congrArg Int32.toInt (t_R_fed hR)
  have e1 : (g1 69 10).toInt = (gi 69 10).toInt := congrArg Int32.toInt (f1 69 10 (by decide) h69).1
  have r75 : g1 75 = gi 75 := t_F_nc f1 h75 (by decide)
  obtain ⟨n, hn⟩ : ∃ n : Nat, (n : Int) = A.toInt := ⟨A.toInt.toNat, by omega⟩
  have k1 := (q1 hin n hn).1
  have k2 := q2.1 (by omega) (gi 2) n hn (fun j hj => by rw [r75]; exact (hT j (by omega)).1.symm) (fun j hj => (hT j (by omega)).2)
  rcases k1 with ⟨k, a1, a2, a3, a4, a5, a6, a7⟩ | ⟨p, x, a0, a1, a2, a3, a4, a5, a6⟩
  · rcases k2 with ⟨k', b1, b2, b3, b4, b5, b6⟩ | ⟨p', x', b0, b1, -⟩
    · have hk : k = k' := congrArg (fun r : (Int × Int) × Nat => r.2) (a1.symm.trans b1)
      subst hk
      exact Or.inl ⟨k, ⟨a2, b2⟩, ⟨a3, a4⟩, ⟨b4, b5⟩, ⟨a6, a7⟩, b3, b6⟩
    · exact (s_rls_ob b0 (a1.symm.trans b1)).elim
  · rcases k2 with ⟨k', b1, -⟩ | ⟨p', x', b0, b1, b2, b3, b4, b5⟩
    · exact (s_rls_ob a0 (b1.symm.trans a1)).elim
    · have h := a1.symm.trans b1
      have h1 : s_fk (gi 2) n p x = s_fk (gi 2) n p' x' := congrArg (fun r : (Int × Int) × Nat => r.1.1) h
      have h2 : ((s_F (gi 2) n p : Nat) : Int) = ((s_F (gi 2) n p' : Nat) : Int) := congrArg (fun r : (Int × Int) × Nat => r.1.2) h
      exact Or.inr ⟨⟨a2, b2⟩, ⟨by rw [a3, b3, h1], by rw [a4, b4, h2]⟩, a6, b5⟩
theorem t_L_rules (hT : t_TP gi) (hR : t_R gi gr) (f1 : t_F w1 gi gl gr g1 l1 r1) (h75 : t_nc w1 75 = true) (h69 : t_in w1 69 10 = false) (q1 : ((0 ≤ A.toInt ∧ A.toInt ≤ (gi 0 5).toInt ∧ A.toInt ≤ 300) → ∀ n : Nat, (n : Int) = A.toInt → t_RSR gi gl gr N (gi 2) n x1 g1 l1 r1) ∧ (¬ (0 ≤ A.toInt ∧ A.toInt ≤ (gi 0 5).toInt ∧ A.toInt ≤ 300) → x1.toInt = -1 ∧ (∀ K, K ≠ 0 → g1 K = gi K ∧ l1 K = gl K ∧ r1 K = gr K) ∧ r1 0 6 = gr 0 6 ∧ r1 0 7 = gr 0 7)) (q2 : Q_n_rules g1 l1 r1 A x2 g2 l2 r2) : x1 = x2 := by
  have e0 : (gi 0 5).toInt = (gi 69 10).toInt := congrArg Int32.toInt (t_R_fed hR)
  have e1 : (g1 69 10).toInt = (gi 69 10).toInt := congrArg Int32.toInt (f1 69 10 (by decide) h69).1
  apply Int32.toInt_inj.mp
  by_cases hin : 0 ≤ A.toInt ∧ A.toInt ≤ (gi 0 5).toInt ∧ A.toInt ≤ 300
  · rcases t_RU_two hT hR f1 h75 h69 hin q1.1 q2 with ⟨k, h, -⟩ | ⟨h, -⟩
    · rw [h.1, h.2]
    · rw [h.1, h.2]
  · rw [(q1.2 hin).1, (q2.2 (by omega)).1]
end LRU
/-! ===== printed by riv.py: what told() tells ===== -/
noncomputable def wl_d_told : List (Nat × Nat) := [(0, 0)]
noncomputable def Q_d_told (gi : Nat → Nat → Int32) (gl : Nat → Nat → Int64) (gr : Nat → Nat → Value) (ar1 : Int32) : Int32 → (Nat → Nat → Int32) → (Nat → Nat → Int64) → (Nat → Nat → Value) → Prop := fun (v : Int32) (gi2 : Nat → Nat → Int32) (gl2 : Nat → Nat → Int64) (gr2 : Nat → Nat → Value) => ∀ (u : Nat) (D : s_D), gr 0 6 = .ref u → t_VL gr u → t_CV gi gl u D → t_Cb D → ((ar1.toInt = 0 ∨ ar1.toInt = 1 ∨ ar1.toInt = 2 ∨ ar1.toInt = 4 ∨ ar1.toInt = 5 ∨ ar1.toInt = 6 ∨ ar1.toInt = 7) → v.toInt = D ar1.toInt.toNat) ∧ (ar1.toInt = 3 → (gr 0 7 = .null → v.toInt = 0) ∧ ∀ u2 : Nat, gr 0 7 = .ref u2 → v.toInt = (gi u2 0).toInt) ∧ (¬ (0 ≤ ar1.toInt ∧ ar1.toInt ≤ 7) → v.toInt = -1)
theorem c_d_told {X : x_Ext} {d : Nat} {sh : List (Nat ⊕ (Nat × Nat))} {gi : Nat → Nat → Int32} {gl : Nat → Nat → Int64} {gr : Nat → Nat → Value} (hI : t_I sh gi gr) (ar1 : Int32) : x_Me X (d + 2) n_X11_told [.ref 0, .int ar1] (sh, gi, gl, gr) (t_PI wl_d_told sh gi gl gr (-2147483648) 2147483647 (Q_d_told gi gl gr ar1)) := by
  have hX : t_X wl_d_told sh gi gl gr gi gl gr := t_X.rf
  refine me_i f_X11_told (hI.wf.s rfl) rfl rfl rfl ?_
  refine ev_loc f_X11_told (nx := 1) rfl rfl rfl rfl ?_
  have h1 : ar1.toInt = 0 ∨ ar1.toInt = 1 ∨ ar1.toInt = 2 ∨ ar1.toInt = 3 ∨ ar1.toInt = 4 ∨ ar1.toInt = 5 ∨ ar1.toInt = 6 ∨ ar1.toInt = 7 ∨ (ar1.toInt ≠ 0 ∧ ar1.toInt ≠ 1 ∧ ar1.toInt ≠ 2 ∧ ar1.toInt ≠ 3 ∧ ar1.toInt ≠ 4 ∧ ar1.toInt ≠ 5 ∧ ar1.toInt ≠ 6 ∧ ar1.toInt ≠ 7) := by have := (t_lo ar1); have := (t_hi ar1); omega
  rcases h1 with h1 | h1 | h1 | h1 | h1 | h1 | h1 | h1 | h1
  · refine ev_swt f_X11_told (nx := 48) (c := 0) rfl h1 rfl ?_
    refine ev_loc f_X11_told (nx := 49) rfl rfl rfl rfl ?_
    refine ev_loc f_X11_told (nx := 50) rfl rfl rfl rfl ?_
    obtain ⟨a2, e2, p2⟩ := hI.2.2.2.1.1
    refine ev_getR f_X11_told (nx := 53) rfl (hI.wf.s rfl) rfl rfl e2 rfl rfl ?_
    refine ev_getI f_X11_told (nx := 56) rfl p2.1 rfl rfl rfl ?_
    obtain ⟨l3, u3⟩ := hI.b p2.1 (t_bdK rfl : t_bd 4 0 = some (0, 6))
    refine ev_inV2 f_X11_told (nx := 59) (lo2 := [(0, .ref 0), (1, .int (gi a2 0))]) rfl rfl rfl rfl f_X11_answer (hI.wf.s rfl) rfl rfl rfl rfl rfl ?_
    refine ev_loc f_X11_answer (nx := 1) rfl rfl rfl rfl ?_
    refine ev_ic f_X11_answer (nx := 2) (v := 0) rfl (by decide) rfl ?_
    refine ev_putIT f_X11_answer (nx := 5) rfl (hI.wf.s rfl) rfl rfl rfl (hI.put0 (hI.wf.s rfl) rfl rfl) (hX.upI rfl) (fun g4 e4 hI hX => ?_)
    refine ev_loc f_X11_answer (nx := 6) rfl rfl rfl rfl ?_
    refine ev_retK1 f_X11_answer rfl rfl rfl ?_
    exact ev_ret f_X11_told rfl rfl rfl ⟨_, _, _, rfl, hI, hX, ⟨_, rfl, (Int.le_trans (by decide : ((-2147483648):Int) ≤ 0) l3), (Int.le_trans u3 (by decide : (6:Int) ≤ 2147483647)), (show ∀ (u : Nat) (D : s_D), gr 0 6 = .ref u → t_VL gr u → t_CV gi gl u D → t_Cb D → ((ar1.toInt = 0 ∨ ar1.toInt = 1 ∨ ar1.toInt = 2 ∨ ar1.toInt = 4 ∨ ar1.toInt = 5 ∨ ar1.toInt = 6 ∨ ar1.toInt = 7) → (gi a2 0).toInt = D ar1.toInt.toNat) ∧ (ar1.toInt = 3 → (gr 0 7 = .null → (gi a2 0).toInt = 0) ∧ ∀ u2 : Nat, gr 0 7 = .ref u2 → (gi a2 0).toInt = (gi u2 0).toInt) ∧ (¬ (0 ≤ ar1.toInt ∧ ar1.toInt ≤ 7) → (gi a2 0).toInt = -1) from (by
                                                            intro u D hu hl hc hb
                                                            have ha : a2 = u := Value.ref.inj (e2.symm.trans hu)
                                                            subst ha
                                                            exact ⟨fun _ => by rw [show ar1.toInt.toNat = 0 by omega]; exact hc.1.1, fun h => absurd h (by omega), fun h => absurd (show _ from ⟨by omega, by omega⟩) h⟩))⟩⟩
  · refine ev_swt f_X11_told (nx := 60) (c := 1) rfl h1 rfl ?_
    refine ev_loc f_X11_told (nx := 61) rfl rfl rfl rfl ?_
    refine ev_loc f_X11_told (nx := 62) rfl rfl rfl rfl ?_
    obtain ⟨a5, e5, p5⟩ := hI.2.2.2.1.1
    refine ev_getR f_X11_told (nx := 65) rfl (hI.wf.s rfl) rfl rfl e5 rfl rfl ?_
    obtain ⟨a6, e6, p6⟩ := p5.2.2.2.2.1
    refine ev_getR f_X11_told (nx := 68) rfl p5.1 rfl rfl e6 rfl rfl ?_
    refine ev_getI f_X11_told (nx := 71) rfl p6.1 rfl rfl rfl ?_
    obtain ⟨l7, u7⟩ := hI.b p6.1 (t_bdK rfl : t_bd 3 0 = some (0, 6))
    refine ev_inV2 f_X11_told (nx := 74) (lo2 := [(0, .ref 0), (1, .int (gi a6 0))]) rfl rfl rfl rfl f_X11_answer (hI.wf.s rfl) rfl rfl rfl rfl rfl ?_
    refine ev_loc f_X11_answer (nx := 1) rfl rfl rfl rfl ?_
    refine ev_ic f_X11_answer (nx := 2) (v := 0) rfl (by decide) rfl ?_
    refine ev_putIT f_X11_answer (nx := 5) rfl (hI.wf.s rfl) rfl rfl rfl (hI.put0 (hI.wf.s rfl) rfl rfl) (hX.upI rfl) (fun g8 e8 hI hX => ?_)
    refine ev_loc f_X11_answer (nx := 6) rfl rfl rfl rfl ?_
    refine ev_retK1 f_X11_answer rfl rfl rfl ?_
    exact ev_ret f_X11_told rfl rfl rfl ⟨_, _, _, rfl, hI, hX, ⟨_, rfl, (Int.le_trans (by decide : ((-2147483648):Int) ≤ 0) l7), (Int.le_trans u7 (by decide : (6:Int) ≤ 2147483647)), (show ∀ (u : Nat) (D : s_D), gr 0 6 = .ref u → t_VL gr u → t_CV gi gl u D → t_Cb D → ((ar1.toInt = 0 ∨ ar1.toInt = 1 ∨ ar1.toInt = 2 ∨ ar1.toInt = 4 ∨ ar1.toInt = 5 ∨ ar1.toInt = 6 ∨ ar1.toInt = 7) → (gi a6 0).toInt = D ar1.toInt.toNat) ∧ (ar1.toInt = 3 → (gr 0 7 = .null → (gi a6 0).toInt = 0) ∧ ∀ u2 : Nat, gr 0 7 = .ref u2 → (gi a6 0).toInt = (gi u2 0).toInt) ∧ (¬ (0 ≤ ar1.toInt ∧ ar1.toInt ≤ 7) → (gi a6 0).toInt = -1) from (by
                                                            intro u D hu hl hc hb
                                                            have ha : a5 = u := Value.ref.inj (e5.symm.trans hu)
                                                            subst ha
                                                            have hb1 : (a5 + 3) = a6 := Value.ref.inj ((hl.1.2.2.2.1).symm.trans e6)
                                                            subst hb1
                                                            exact ⟨fun _ => by rw [show ar1.toInt.toNat = 1 by omega]; exact hc.2.2.1.1, fun h => absurd h (by omega), fun h => absurd (show _ from ⟨by omega, by omega⟩) h⟩))⟩⟩
  · refine ev_swt f_X11_told (nx := 75) (c := 2) rfl h1 rfl ?_
    refine ev_loc f_X11_told (nx := 76) rfl rfl rfl rfl ?_
    refine ev_loc f_X11_told (nx := 77) rfl rfl rfl rfl ?_
    obtain ⟨a9, e9, p9⟩ := hI.2.2.2.1.1
    refine ev_getR f_X11_told (nx := 80) rfl (hI.wf.s rfl) rfl rfl e9 rfl rfl ?_
    obtain ⟨a10, e10, p10⟩ := p9.2.2.2.2.2
    refine ev_getR f_X11_told (nx := 83) rfl p9.1 rfl rfl e10 rfl rfl ?_
    refine ev_getI f_X11_told (nx := 86) rfl p10.1 rfl rfl rfl ?_
    obtain ⟨l11, u11⟩ := hI.b p10.1 (t_bdK rfl : t_bd 3 0 = some (0, 6))
    refine ev_inV2 f_X11_told (nx := 89) (lo2 := [(0, .ref 0), (1, .int (gi a10 0))]) rfl rfl rfl rfl f_X11_answer (hI.wf.s rfl) rfl rfl rfl rfl rfl ?_
    refine ev_loc f_X11_answer (nx := 1) rfl rfl rfl rfl ?_
    refine ev_ic f_X11_answer (nx := 2) (v := 0) rfl (by decide) rfl ?_
    refine ev_putIT f_X11_answer (nx := 5) rfl (hI.wf.s rfl) rfl rfl rfl (hI.put0 (hI.wf.s rfl) rfl rfl) (hX.upI rfl) (fun g12 e12 hI hX => ?_)
    refine ev_loc f_X11_answer (nx := 6) rfl rfl rfl rfl ?_
    refine ev_retK1 f_X11_answer rfl rfl rfl ?_
    exact ev_ret f_X11_told rfl rfl rfl ⟨_, _, _, rfl, hI, hX, ⟨_, rfl, (Int.le_trans (by decide : ((-2147483648):Int) ≤ 0) l11), (Int.le_trans u11 (by decide : (6:Int) ≤ 2147483647)), (show ∀ (u : Nat) (D : s_D), gr 0 6 = .ref u → t_VL gr u → t_CV gi gl u D → t_Cb D → ((ar1.toInt = 0 ∨ ar1.toInt = 1 ∨ ar1.toInt = 2 ∨ ar1.toInt = 4 ∨ ar1.toInt = 5 ∨ ar1.toInt = 6 ∨ ar1.toInt = 7) → (gi a10 0).toInt = D ar1.toInt.toNat) ∧ (ar1.toInt = 3 → (gr 0 7 = .null → (gi a10 0).toInt = 0) ∧ ∀ u2 : Nat, gr 0 7 = .ref u2 → (gi a10 0).toInt = (gi u2 0).toInt) ∧ (¬ (0 ≤ ar1.toInt ∧ ar1.toInt ≤ 7) → (gi a10 0).toInt = -1) from (by
                                                            intro u D hu hl hc hb
                                                            have ha : a9 = u := Value.ref.inj (e9.symm.trans hu)
                                                            subst ha
                                                            have hb1 : (a9 + 10) = a10 := Value.ref.inj ((hl.1.2.2.2.2).symm.trans e10)
                                                            subst hb1
                                                            exact ⟨fun _ => by rw [show ar1.toInt.toNat = 2 by omega]; exact hc.2.2.2.1, fun h => absurd h (by omega), fun h => absurd (show _ from ⟨by omega, by omega⟩) h⟩))⟩⟩
  · refine ev_swt f_X11_told (nx := 90) (c := 3) rfl h1 rfl ?_
    refine ev_loc f_X11_told (nx := 91) rfl rfl rfl rfl ?_
    refine ev_loc f_X11_told (nx := 92) rfl rfl rfl rfl ?_
    rcases hI.2.2.2.1.2.1 with e13 | ⟨a13, e13, p13⟩
    · refine ev_getR f_X11_told (nx := 95) rfl (hI.wf.s rfl) rfl rfl e13 rfl rfl ?_
      refine ev_jmp f_X11_told (nx := 98) rfl rfl rfl ?_
      refine ev_ic f_X11_told (nx := 99) (v := 0) rfl (by decide) rfl ?_
      refine ev_jmp f_X11_told (nx := 109) rfl rfl rfl ?_
      refine ev_inV2 f_X11_told (nx := 112) (lo2 := [(0, .ref 0), (1, .int 0)]) rfl rfl rfl rfl f_X11_answer (hI.wf.s rfl) rfl rfl rfl rfl rfl ?_
      refine ev_loc f_X11_answer (nx := 1) rfl rfl rfl rfl ?_
      refine ev_ic f_X11_answer (nx := 2) (v := 0) rfl (by decide) rfl ?_
      refine ev_putIT f_X11_answer (nx := 5) rfl (hI.wf.s rfl) rfl rfl rfl (hI.put0 (hI.wf.s rfl) rfl rfl) (hX.upI rfl) (fun g14 e14 hI hX => ?_)
      refine ev_loc f_X11_answer (nx := 6) rfl rfl rfl rfl ?_
      refine ev_retK1 f_X11_answer rfl rfl rfl ?_
      exact ev_ret f_X11_told rfl rfl rfl ⟨_, _, _, rfl, hI, hX, ⟨_, rfl, (Int.le_trans (by decide : ((-2147483648):Int) ≤ 0) (by decide : (0:Int) ≤ (0:Int32).toInt)), (Int.le_trans (by decide : (0:Int32).toInt ≤ (0:Int)) (by decide : (0:Int) ≤ 2147483647)), (show ∀ (u : Nat) (D : s_D), gr 0 6 = .ref u → t_VL gr u → t_CV gi gl u D → t_Cb D → ((ar1.toInt = 0 ∨ ar1.toInt = 1 ∨ ar1.toInt = 2 ∨ ar1.toInt = 4 ∨ ar1.toInt = 5 ∨ ar1.toInt = 6 ∨ ar1.toInt = 7) → (0 : Int) = D ar1.toInt.toNat) ∧ (ar1.toInt = 3 → (gr 0 7 = .null → (0 : Int) = 0) ∧ ∀ u2 : Nat, gr 0 7 = .ref u2 → (0 : Int) = (gi u2 0).toInt) ∧ (¬ (0 ≤ ar1.toInt ∧ ar1.toInt ≤ 7) → (0 : Int) = -1) from (by
                                                            intro u D hu hl hc hb
                                                            exact ⟨fun h => absurd h (by omega), fun _ => ⟨fun _ => rfl, fun u2 h2 => absurd (e13.symm.trans h2) (by intro hh; cases hh)⟩, fun h => absurd (show _ from ⟨by omega, by omega⟩) h⟩))⟩⟩
    · refine ev_getR f_X11_told (nx := 95) rfl (hI.wf.s rfl) rfl rfl e13 rfl rfl ?_
      refine ev_jmp f_X11_told (nx := 102) rfl rfl rfl ?_
      refine ev_loc f_X11_told (nx := 103) rfl rfl rfl rfl ?_
      refine ev_getR f_X11_told (nx := 106) (v := .ref a13) rfl (hI.wf.s rfl) rfl rfl e13 rfl rfl ?_
      refine ev_getI f_X11_told (nx := 109) rfl p13.1 rfl rfl rfl ?_
      obtain ⟨l15, u15⟩ := hI.b p13.1 (t_bdK rfl : t_bd 6 0 = some (0, 12))
      refine ev_inV2 f_X11_told (nx := 112) (lo2 := [(0, .ref 0), (1, .int (gi a13 0))]) rfl rfl rfl rfl f_X11_answer (hI.wf.s rfl) rfl rfl rfl rfl rfl ?_
      refine ev_loc f_X11_answer (nx := 1) rfl rfl rfl rfl ?_
      refine ev_ic f_X11_answer (nx := 2) (v := 0) rfl (by decide) rfl ?_
      refine ev_putIT f_X11_answer (nx := 5) rfl (hI.wf.s rfl) rfl rfl rfl (hI.put0 (hI.wf.s rfl) rfl rfl) (hX.upI rfl) (fun g16 e16 hI hX => ?_)
      refine ev_loc f_X11_answer (nx := 6) rfl rfl rfl rfl ?_
      refine ev_retK1 f_X11_answer rfl rfl rfl ?_
      exact ev_ret f_X11_told rfl rfl rfl ⟨_, _, _, rfl, hI, hX, ⟨_, rfl, (Int.le_trans (by decide : ((-2147483648):Int) ≤ 0) l15), (Int.le_trans u15 (by decide : (12:Int) ≤ 2147483647)), (show ∀ (u : Nat) (D : s_D), gr 0 6 = .ref u → t_VL gr u → t_CV gi gl u D → t_Cb D → ((ar1.toInt = 0 ∨ ar1.toInt = 1 ∨ ar1.toInt = 2 ∨ ar1.toInt = 4 ∨ ar1.toInt = 5 ∨ ar1.toInt = 6 ∨ ar1.toInt = 7) → (gi a13 0).toInt = D ar1.toInt.toNat) ∧ (ar1.toInt = 3 → (gr 0 7 = .null → (gi a13 0).toInt = 0) ∧ ∀ u2 : Nat, gr 0 7 = .ref u2 → (gi a13 0).toInt = (gi u2 0).toInt) ∧ (¬ (0 ≤ ar1.toInt ∧ ar1.toInt ≤ 7) → (gi a13 0).toInt = -1) from (by
                                                            intro u D hu hl hc hb
                                                            exact ⟨fun h => absurd h (by omega), fun _ => ⟨fun h0 => absurd (e13.symm.trans h0) (by intro hh; cases hh), fun u2 h2 => by have he := Value.ref.inj (e13.symm.trans h2); rw [← he]⟩, fun h => absurd (show _ from ⟨by omega, by omega⟩) h⟩))⟩⟩
  · refine ev_swt f_X11_told (nx := 113) (c := 4) rfl h1 rfl ?_
    refine ev_loc f_X11_told (nx := 114) rfl rfl rfl rfl ?_
    refine ev_loc f_X11_told (nx := 115) rfl rfl rfl rfl ?_
    obtain ⟨a17, e17, p17⟩ := hI.2.2.2.1.1
    refine ev_getR f_X11_told (nx := 118) rfl (hI.wf.s rfl) rfl rfl e17 rfl rfl ?_
    refine ev_getI f_X11_told (nx := 121) rfl p17.1 rfl rfl rfl ?_
    refine ev_inV2 f_X11_told (nx := 124) (lo2 := [(0, .ref 0), (1, .int (gi a17 3))]) rfl rfl rfl rfl f_X11_answer (hI.wf.s rfl) rfl rfl rfl rfl rfl ?_
    refine ev_loc f_X11_answer (nx := 1) rfl rfl rfl rfl ?_
    refine ev_ic f_X11_answer (nx := 2) (v := 0) rfl (by decide) rfl ?_
    refine ev_putIT f_X11_answer (nx := 5) rfl (hI.wf.s rfl) rfl rfl rfl (hI.put0 (hI.wf.s rfl) rfl rfl) (hX.upI rfl) (fun g18 e18 hI hX => ?_)
    refine ev_loc f_X11_answer (nx := 6) rfl rfl rfl rfl ?_
    refine ev_retK1 f_X11_answer rfl rfl rfl ?_
    exact ev_ret f_X11_told rfl rfl rfl ⟨_, _, _, rfl, hI, hX, ⟨_, rfl, (t_lo (gi a17 3)), (t_hi (gi a17 3)), (show ∀ (u : Nat) (D : s_D), gr 0 6 = .ref u → t_VL gr u → t_CV gi gl u D → t_Cb D → ((ar1.toInt = 0 ∨ ar1.toInt = 1 ∨ ar1.toInt = 2 ∨ ar1.toInt = 4 ∨ ar1.toInt = 5 ∨ ar1.toInt = 6 ∨ ar1.toInt = 7) → (gi a17 3).toInt = D ar1.toInt.toNat) ∧ (ar1.toInt = 3 → (gr 0 7 = .null → (gi a17 3).toInt = 0) ∧ ∀ u2 : Nat, gr 0 7 = .ref u2 → (gi a17 3).toInt = (gi u2 0).toInt) ∧ (¬ (0 ≤ ar1.toInt ∧ ar1.toInt ≤ 7) → (gi a17 3).toInt = -1) from (by
                                                            intro u D hu hl hc hb
                                                            have ha : a17 = u := Value.ref.inj (e17.symm.trans hu)
                                                            subst ha
                                                            exact ⟨fun _ => by rw [show ar1.toInt.toNat = 4 by omega]; exact hc.2.1.1, fun h => absurd h (by omega), fun h => absurd (show _ from ⟨by omega, by omega⟩) h⟩))⟩⟩
  · refine ev_swt f_X11_told (nx := 125) (c := 5) rfl h1 rfl ?_
    refine ev_loc f_X11_told (nx := 126) rfl rfl rfl rfl ?_
    refine ev_loc f_X11_told (nx := 127) rfl rfl rfl rfl ?_
    obtain ⟨a19, e19, p19⟩ := hI.2.2.2.1.1
    refine ev_getR f_X11_told (nx := 130) rfl (hI.wf.s rfl) rfl rfl e19 rfl rfl ?_
    refine ev_getI f_X11_told (nx := 133) rfl p19.1 rfl rfl rfl ?_
    refine ev_inV2 f_X11_told (nx := 136) (lo2 := [(0, .ref 0), (1, .int (gi a19 4))]) rfl rfl rfl rfl f_X11_answer (hI.wf.s rfl) rfl rfl rfl rfl rfl ?_
    refine ev_loc f_X11_answer (nx := 1) rfl rfl rfl rfl ?_
    refine ev_ic f_X11_answer (nx := 2) (v := 0) rfl (by decide) rfl ?_
    refine ev_putIT f_X11_answer (nx := 5) rfl (hI.wf.s rfl) rfl rfl rfl (hI.put0 (hI.wf.s rfl) rfl rfl) (hX.upI rfl) (fun g20 e20 hI hX => ?_)
    refine ev_loc f_X11_answer (nx := 6) rfl rfl rfl rfl ?_
    refine ev_retK1 f_X11_answer rfl rfl rfl ?_
    exact ev_ret f_X11_told rfl rfl rfl ⟨_, _, _, rfl, hI, hX, ⟨_, rfl, (t_lo (gi a19 4)), (t_hi (gi a19 4)), (show ∀ (u : Nat) (D : s_D), gr 0 6 = .ref u → t_VL gr u → t_CV gi gl u D → t_Cb D → ((ar1.toInt = 0 ∨ ar1.toInt = 1 ∨ ar1.toInt = 2 ∨ ar1.toInt = 4 ∨ ar1.toInt = 5 ∨ ar1.toInt = 6 ∨ ar1.toInt = 7) → (gi a19 4).toInt = D ar1.toInt.toNat) ∧ (ar1.toInt = 3 → (gr 0 7 = .null → (gi a19 4).toInt = 0) ∧ ∀ u2 : Nat, gr 0 7 = .ref u2 → (gi a19 4).toInt = (gi u2 0).toInt) ∧ (¬ (0 ≤ ar1.toInt ∧ ar1.toInt ≤ 7) → (gi a19 4).toInt = -1) from (by
                                                            intro u D hu hl hc hb
                                                            have ha : a19 = u := Value.ref.inj (e19.symm.trans hu)
                                                            subst ha
                                                            exact ⟨fun _ => by rw [show ar1.toInt.toNat = 5 by omega]; exact hc.2.1.2.1, fun h => absurd h (by omega), fun h => absurd (show _ from ⟨by omega, by omega⟩) h⟩))⟩⟩
  · refine ev_swt f_X11_told (nx := 137) (c := 6) rfl h1 rfl ?_
    refine ev_loc f_X11_told (nx := 138) rfl rfl rfl rfl ?_
    refine ev_loc f_X11_told (nx := 139) rfl rfl rfl rfl ?_
    obtain ⟨a21, e21, p21⟩ := hI.2.2.2.1.1
    refine ev_getR f_X11_told (nx := 142) rfl (hI.wf.s rfl) rfl rfl e21 rfl rfl ?_
    refine ev_getI f_X11_told (nx := 145) rfl p21.1 rfl rfl rfl ?_
    refine ev_inV2 f_X11_told (nx := 148) (lo2 := [(0, .ref 0), (1, .int (gi a21 5))]) rfl rfl rfl rfl f_X11_answer (hI.wf.s rfl) rfl rfl rfl rfl rfl ?_
    refine ev_loc f_X11_answer (nx := 1) rfl rfl rfl rfl ?_
    refine ev_ic f_X11_answer (nx := 2) (v := 0) rfl (by decide) rfl ?_
    refine ev_putIT f_X11_answer (nx := 5) rfl (hI.wf.s rfl) rfl rfl rfl (hI.put0 (hI.wf.s rfl) rfl rfl) (hX.upI rfl) (fun g22 e22 hI hX => ?_)
    refine ev_loc f_X11_answer (nx := 6) rfl rfl rfl rfl ?_
    refine ev_retK1 f_X11_answer rfl rfl rfl ?_
    exact ev_ret f_X11_told rfl rfl rfl ⟨_, _, _, rfl, hI, hX, ⟨_, rfl, (t_lo (gi a21 5)), (t_hi (gi a21 5)), (show ∀ (u : Nat) (D : s_D), gr 0 6 = .ref u → t_VL gr u → t_CV gi gl u D → t_Cb D → ((ar1.toInt = 0 ∨ ar1.toInt = 1 ∨ ar1.toInt = 2 ∨ ar1.toInt = 4 ∨ ar1.toInt = 5 ∨ ar1.toInt = 6 ∨ ar1.toInt = 7) → (gi a21 5).toInt = D ar1.toInt.toNat) ∧ (ar1.toInt = 3 → (gr 0 7 = .null → (gi a21 5).toInt = 0) ∧ ∀ u2 : Nat, gr 0 7 = .ref u2 → (gi a21 5).toInt = (gi u2 0).toInt) ∧ (¬ (0 ≤ ar1.toInt ∧ ar1.toInt ≤ 7) → (gi a21 5).toInt = -1) from (by
                                                            intro u D hu hl hc hb
                                                            have ha : a21 = u := Value.ref.inj (e21.symm.trans hu)
                                                            subst ha
                                                            exact ⟨fun _ => by rw [show ar1.toInt.toNat = 6 by omega]; exact hc.2.1.2.2.1, fun h => absurd h (by omega), fun h => absurd (show _ from ⟨by omega, by omega⟩) h⟩))⟩⟩
  · refine ev_swt f_X11_told (nx := 149) (c := 7) rfl h1 rfl ?_
    refine ev_loc f_X11_told (nx := 150) rfl rfl rfl rfl ?_
    refine ev_loc f_X11_told (nx := 151) rfl rfl rfl rfl ?_
    obtain ⟨a23, e23, p23⟩ := hI.2.2.2.1.1
    refine ev_getR f_X11_told (nx := 154) rfl (hI.wf.s rfl) rfl rfl e23 rfl rfl ?_
    refine ev_getI f_X11_told (nx := 157) rfl p23.1 rfl rfl rfl ?_
    refine ev_inV2 f_X11_told (nx := 160) (lo2 := [(0, .ref 0), (1, .int (gi a23 6))]) rfl rfl rfl rfl f_X11_answer (hI.wf.s rfl) rfl rfl rfl rfl rfl ?_
    refine ev_loc f_X11_answer (nx := 1) rfl rfl rfl rfl ?_
    refine ev_ic f_X11_answer (nx := 2) (v := 0) rfl (by decide) rfl ?_
    refine ev_putIT f_X11_answer (nx := 5) rfl (hI.wf.s rfl) rfl rfl rfl (hI.put0 (hI.wf.s rfl) rfl rfl) (hX.upI rfl) (fun g24 e24 hI hX => ?_)
    refine ev_loc f_X11_answer (nx := 6) rfl rfl rfl rfl ?_
    refine ev_retK1 f_X11_answer rfl rfl rfl ?_
    exact ev_ret f_X11_told rfl rfl rfl ⟨_, _, _, rfl, hI, hX, ⟨_, rfl, (t_lo (gi a23 6)), (t_hi (gi a23 6)), (show ∀ (u : Nat) (D : s_D), gr 0 6 = .ref u → t_VL gr u → t_CV gi gl u D → t_Cb D → ((ar1.toInt = 0 ∨ ar1.toInt = 1 ∨ ar1.toInt = 2 ∨ ar1.toInt = 4 ∨ ar1.toInt = 5 ∨ ar1.toInt = 6 ∨ ar1.toInt = 7) → (gi a23 6).toInt = D ar1.toInt.toNat) ∧ (ar1.toInt = 3 → (gr 0 7 = .null → (gi a23 6).toInt = 0) ∧ ∀ u2 : Nat, gr 0 7 = .ref u2 → (gi a23 6).toInt = (gi u2 0).toInt) ∧ (¬ (0 ≤ ar1.toInt ∧ ar1.toInt ≤ 7) → (gi a23 6).toInt = -1) from (by
                                                            intro u D hu hl hc hb
                                                            have ha : a23 = u := Value.ref.inj (e23.symm.trans hu)
                                                            subst ha
                                                            exact ⟨fun _ => by rw [show ar1.toInt.toNat = 7 by omega]; exact hc.2.1.2.2.2, fun h => absurd h (by omega), fun h => absurd (show _ from ⟨by omega, by omega⟩) h⟩))⟩⟩
  · refine ev_swtd f_X11_told (nx := 161) rfl (by omega) (by decide) rfl ?_
    refine ev_loc f_X11_told (nx := 162) rfl rfl rfl rfl ?_
    refine ev_ic f_X11_told (nx := 163) (v := 1) rfl (by decide) rfl ?_
    refine ev_inV2 f_X11_told (nx := 166) (lo2 := [(0, .ref 0), (1, .int 1)]) rfl rfl rfl rfl f_X11_refuse (hI.wf.s rfl) rfl rfl rfl rfl rfl ?_
    refine ev_loc f_X11_refuse (nx := 1) rfl rfl rfl rfl ?_
    refine ev_loc f_X11_refuse (nx := 2) rfl rfl rfl rfl ?_
    refine ev_putIT f_X11_refuse (nx := 5) rfl (hI.wf.s rfl) rfl rfl rfl (hI.put0 (hI.wf.s rfl) rfl rfl) (hX.upI rfl) (fun g25 e25 hI hX => ?_)
    refine ev_ic f_X11_refuse (nx := 6) (v := -1) rfl (by decide) rfl ?_
    refine ev_retK1 f_X11_refuse rfl rfl rfl ?_
    exact ev_ret f_X11_told rfl rfl rfl ⟨_, _, _, rfl, hI, hX, ⟨_, rfl, (Int.le_trans (by decide : ((-2147483648):Int) ≤ (-1)) (by decide : ((-1):Int) ≤ ((-1):Int32).toInt)), (Int.le_trans (by decide : ((-1):Int32).toInt ≤ ((-1):Int)) (by decide : ((-1):Int) ≤ 2147483647)), (show ∀ (u : Nat) (D : s_D), gr 0 6 = .ref u → t_VL gr u → t_CV gi gl u D → t_Cb D → ((ar1.toInt = 0 ∨ ar1.toInt = 1 ∨ ar1.toInt = 2 ∨ ar1.toInt = 4 ∨ ar1.toInt = 5 ∨ ar1.toInt = 6 ∨ ar1.toInt = 7) → ((-1) : Int) = D ar1.toInt.toNat) ∧ (ar1.toInt = 3 → (gr 0 7 = .null → ((-1) : Int) = 0) ∧ ∀ u2 : Nat, gr 0 7 = .ref u2 → ((-1) : Int) = (gi u2 0).toInt) ∧ (¬ (0 ≤ ar1.toInt ∧ ar1.toInt ≤ 7) → ((-1) : Int) = -1) from (by
                                                            intro u D hu hl hc hb
                                                            exact ⟨fun h => absurd h (by omega), fun h => absurd h (by omega), fun _ => rfl⟩))⟩⟩
noncomputable def wl_e_told : List (Nat × Nat) := [(69, 2)]
noncomputable def Q_e_told (gi : Nat → Nat → Int32) (gl : Nat → Nat → Int64) (gr : Nat → Nat → Value) (ar1 : Int32) : Int32 → (Nat → Nat → Int32) → (Nat → Nat → Int64) → (Nat → Nat → Value) → Prop := fun (v : Int32) (gi2 : Nat → Nat → Int32) (gl2 : Nat → Nat → Int64) (gr2 : Nat → Nat → Value) => (0 ≤ ar1.toInt ∧ ar1.toInt ≤ 7 → v.toInt = (gi 70 ar1.toInt.toNat).toInt) ∧ (¬ (0 ≤ ar1.toInt ∧ ar1.toInt ≤ 7) → v.toInt = -1)
theorem c_e_told {X : x_Ext} {d : Nat} {sh : List (Nat ⊕ (Nat × Nat))} {gi : Nat → Nat → Int32} {gl : Nat → Nat → Int64} {gr : Nat → Nat → Value} (hI : t_I sh gi gr) (ar1 : Int32) : x_Me X (d + 2) n_X12_told [.ref 69, .int ar1] (sh, gi, gl, gr) (t_PI wl_e_told sh gi gl gr (-1) 200 (Q_e_told gi gl gr ar1)) := by
  have hX : t_X wl_e_told sh gi gl gr gi gl gr := t_X.rf
  refine me_i f_X12_told (hI.wf.s rfl) rfl rfl rfl ?_
  refine ev_loc f_X12_told (nx := 1) rfl rfl rfl rfl ?_
  refine ev_if f_X12_told (t1 := 10) (t2 := 4) rfl rfl rfl (fun h1 => ?_) (fun h1 => ?_)
  · have u2 : ar1.toInt ≤ (-1) := t_ltu h1 (by decide : (0:Int32).toInt ≤ (0:Int)) rfl
    refine ev_loc f_X12_told (nx := 11) rfl rfl rfl rfl ?_
    refine ev_ic f_X12_told (nx := 12) (v := 1) rfl (by decide) rfl ?_
    refine ev_inV2 f_X12_told (nx := 15) (lo2 := [(0, .ref 69), (1, .int 1)]) rfl rfl rfl rfl f_X12_refuse (hI.wf.s rfl) rfl rfl rfl rfl rfl ?_
    refine ev_loc f_X12_refuse (nx := 1) rfl rfl rfl rfl ?_
    refine ev_loc f_X12_refuse (nx := 2) rfl rfl rfl rfl ?_
    refine ev_putIT f_X12_refuse (nx := 5) rfl (hI.wf.s rfl) rfl rfl rfl (hI.put0 (hI.wf.s rfl) rfl rfl) (hX.upI rfl) (fun g3 e3 hI hX => ?_)
    refine ev_ic f_X12_refuse (nx := 6) (v := -1) rfl (by decide) rfl ?_
    refine ev_retK1 f_X12_refuse rfl rfl rfl ?_
    refine ev_jmp f_X12_told (nx := 28) rfl rfl rfl ?_
    exact ev_ret f_X12_told rfl rfl rfl ⟨_, _, _, rfl, hI, hX, ⟨_, rfl, (by decide : ((-1):Int) ≤ ((-1):Int32).toInt), (Int.le_trans (by decide : ((-1):Int32).toInt ≤ ((-1):Int)) (by decide : ((-1):Int) ≤ 200)), (show (0 ≤ ar1.toInt ∧ ar1.toInt ≤ 7 → ((-1) : Int) = (gi 70 ar1.toInt.toNat).toInt) ∧ (¬ (0 ≤ ar1.toInt ∧ ar1.toInt ≤ 7) → ((-1) : Int) = -1) from ⟨fun h => absurd h (by omega), fun _ => rfl⟩)⟩⟩
  · have l4 : 0 ≤ ar1.toInt := t_lel (t_nlt h1) (by decide : (0:Int) ≤ (0:Int32).toInt)
    refine ev_loc f_X12_told (nx := 5) rfl rfl rfl rfl ?_
    refine ev_bp f_X12_told (nx := 7) (v := 7) rfl (by decide) rfl ?_
    refine ev_if f_X12_told (t1 := 18) (t2 := 10) rfl rfl rfl (fun h5 => ?_) (fun h5 => ?_)
    · have u6 : ar1.toInt ≤ 7 := t_leu h5 (by decide : (7:Int32).toInt ≤ (7:Int))
      refine ev_loc f_X12_told (nx := 19) rfl rfl rfl rfl ?_
      refine ev_loc f_X12_told (nx := 20) rfl rfl rfl rfl ?_
      refine ev_getR f_X12_told (nx := 23) rfl (hI.wf.s rfl) rfl rfl (hI.wf.r rfl) rfl rfl ?_
      refine ev_loc f_X12_told (nx := 24) rfl rfl rfl rfl ?_
      refine ev_ialdT f_X12_told (nx := 25) rfl (hI.wf.s rfl) l4 (by decide) u6 (by decide) rfl (fun w7 e7 => ?_)
      obtain ⟨l7, u7⟩ := hI.abi e7 (by decide +kernel : t_abr 70 0 7 0 200 = true) l4 (by decide) u6 (by decide)
      refine ev_inV2 f_X12_told (nx := 28) (lo2 := [(0, .ref 69), (1, .int w7)]) rfl rfl rfl rfl f_X12_gives (hI.wf.s rfl) rfl rfl rfl rfl rfl ?_
      refine ev_loc f_X12_gives (nx := 1) rfl rfl rfl rfl ?_
      refine ev_ic f_X12_gives (nx := 2) (v := 0) rfl (by decide) rfl ?_
      refine ev_putIT f_X12_gives (nx := 5) rfl (hI.wf.s rfl) rfl rfl rfl (hI.put0 (hI.wf.s rfl) rfl rfl) (hX.upI rfl) (fun g8 e8 hI hX => ?_)
      refine ev_loc f_X12_gives (nx := 6) rfl rfl rfl rfl ?_
      refine ev_retK1 f_X12_gives rfl rfl rfl ?_
      exact ev_ret f_X12_told rfl rfl rfl ⟨_, _, _, rfl, hI, hX, ⟨_, rfl, (Int.le_trans (by decide : ((-1):Int) ≤ 0) l7), u7, (show (0 ≤ ar1.toInt ∧ ar1.toInt ≤ 7 → w7.toInt = (gi 70 ar1.toInt.toNat).toInt) ∧ (¬ (0 ≤ ar1.toInt ∧ ar1.toInt ≤ 7) → w7.toInt = -1) from ⟨fun _ => (by have kc := t_clamp (i := ar1) (by omega); rw [e7, show ar1.toNatClampNeg = ar1.toInt.toNat by omega]), fun h => absurd (show _ from ⟨by omega, by omega⟩) h⟩)⟩⟩
    · have l9 : 8 ≤ ar1.toInt := t_ltl (t_nle h5) (by decide : (7:Int) ≤ (7:Int32).toInt) rfl
      refine ev_loc f_X12_told (nx := 11) rfl rfl rfl rfl ?_
      refine ev_ic f_X12_told (nx := 12) (v := 1) rfl (by decide) rfl ?_
      refine ev_inV2 f_X12_told (nx := 15) (lo2 := [(0, .ref 69), (1, .int 1)]) rfl rfl rfl rfl f_X12_refuse (hI.wf.s rfl) rfl rfl rfl rfl rfl ?_
      refine ev_loc f_X12_refuse (nx := 1) rfl rfl rfl rfl ?_
      refine ev_loc f_X12_refuse (nx := 2) rfl rfl rfl rfl ?_
      refine ev_putIT f_X12_refuse (nx := 5) rfl (hI.wf.s rfl) rfl rfl rfl (hI.put0 (hI.wf.s rfl) rfl rfl) (hX.upI rfl) (fun g10 e10 hI hX => ?_)
      refine ev_ic f_X12_refuse (nx := 6) (v := -1) rfl (by decide) rfl ?_
      refine ev_retK1 f_X12_refuse rfl rfl rfl ?_
      refine ev_jmp f_X12_told (nx := 28) rfl rfl rfl ?_
      exact ev_ret f_X12_told rfl rfl rfl ⟨_, _, _, rfl, hI, hX, ⟨_, rfl, (by decide : ((-1):Int) ≤ ((-1):Int32).toInt), (Int.le_trans (by decide : ((-1):Int32).toInt ≤ ((-1):Int)) (by decide : ((-1):Int) ≤ 200)), (show (0 ≤ ar1.toInt ∧ ar1.toInt ≤ 7 → ((-1) : Int) = (gi 70 ar1.toInt.toNat).toInt) ∧ (¬ (0 ≤ ar1.toInt ∧ ar1.toInt ≤ 7) → ((-1) : Int) = -1) from ⟨fun h => absurd h (by omega), fun _ => rfl⟩)⟩⟩
/-! ===== how many RULES there are: the same on both sides ===== -/
noncomputable def s_d3 (D : s_D) : Prop := D 3 = 0 ∧ D 8 = 0
section TLD
variable {b : Nat → Int32} {n p : Nat} {D : s_D} {lo hi : Int} {r r2 : s_R} {c : Prop}
theorem s_d3_if (h : c → s_d3 r.2.2) (h2 : ¬ c → s_d3 r2.2.2) : s_d3 (s_if c r r2).2.2 := by
  by_cases hc : c
  · rw [s_ifT hc]; exact h hc
  · rw [s_ifF hc]; exact h2 hc
theorem s_d3_kw {i : Nat} {k : Nat → s_R} (h : s_d3 D) (hk : ∀ q, s_d3 (k q).2.2) : s_d3 (s_kw b n p i D k).2.2 := s_d3_if (fun _ => hk _) (fun _ => h)
theorem s_d3_num {k : Nat → s_R} (h : s_d3 D) (hk : ∀ q, s_d3 (k q).2.2) : s_d3 (s_num b n p lo hi D k).2.2 := s_d3_if (fun _ => s_d3_if (fun _ => hk _) (fun _ => h)) (fun _ => h)
theorem s_d3_name {k : Nat → s_R} (h : s_d3 D) (hk : ∀ q, s_d3 (k q).2.2) : s_d3 (s_name b n p D k).2.2 := s_d3_if (fun _ => s_d3_if (fun _ => h) (fun _ => hk _)) (fun _ => h)
theorem s_d3_set {i : Nat} {v : Int} (h : s_d3 D) (hi : i ≠ 3 ∧ i ≠ 8) : s_d3 (s_set D i v) := ⟨(if_neg (fun e => hi.1 e.symm)).trans h.1, (if_neg (fun e => hi.2 e.symm)).trans h.2⟩
theorem s_d3_P {nm bl : Int} (h : s_d3 D) : s_d3 (s_addP D nm bl) := by
  have e : ∀ j, j = 3 ∨ j = 8 → s_addP D nm bl j = D j := fun j hj => by
    unfold s_addP; rw [if_neg (by omega), if_neg (by omega), if_neg (by omega)]
  exact ⟨(e 3 (Or.inl rfl)).trans h.1, (e 8 (Or.inr rfl)).trans h.2⟩
theorem s_d3_S {nm po at_ ta co sa : Int} (h : s_d3 D) : s_d3 (s_addS D nm po at_ ta co sa) := by
  have e : ∀ j, j = 3 ∨ j = 8 → s_addS D nm po at_ ta co sa j = D j := fun j hj => by
    unfold s_addS; rw [if_neg (by omega), if_neg (by omega), if_neg (by omega), if_neg (by omega), if_neg (by omega), if_neg (by omega), if_neg (by omega)]
  exact ⟨(e 3 (Or.inl rfl)).trans h.1, (e 8 (Or.inr rfl)).trans h.2⟩
theorem s_d3_C {nm at_ ta co : Int} (h : s_d3 D) : s_d3 (s_addC D nm at_ ta co) := by
  have e : ∀ j, j = 3 ∨ j = 8 → s_addC D nm at_ ta co j = D j := fun j hj => by
    unfold s_addC; rw [if_neg (by omega), if_neg (by omega), if_neg (by omega), if_neg (by omega), if_neg (by omega)]
  exact ⟨(e 3 (Or.inl rfl)).trans h.1, (e 8 (Or.inr rfl)).trans h.2⟩
theorem s_d3_come {k : Nat → Int → Int → Int → s_R} (h : s_d3 D) (hk : ∀ (q : Nat) (a t w : Int), s_d3 (k q a t w).2.2) : s_d3 (s_come b n p D k).2.2 :=
  s_d3_kw h fun _ => s_d3_num h fun _ => s_d3_kw h fun _ => s_d3_num h fun _ => s_d3_kw h fun _ => s_d3_num h fun _ => hk _ _ _ _
theorem s_d3_port (h : s_d3 D) : s_d3 (s_port b n p D).2.2 := s_d3_if (fun _ => h) fun _ => s_d3_name h fun _ => s_d3_kw h fun _ => s_d3_if (fun _ => s_d3_if (fun _ => h) fun _ => s_d3_P h) fun _ => h
theorem s_d3_turns (h : s_d3 D) : s_d3 (s_turns b n p D).2.2 := s_d3_if (fun _ => s_d3_num h fun _ => s_d3_set (s_d3_set h ⟨by decide, by decide⟩) ⟨by decide, by decide⟩) fun _ => h
theorem s_d3_frost (h : s_d3 D) : s_d3 (s_frost b n p D).2.2 := s_d3_if (fun _ => s_d3_num h fun _ => s_d3_kw h fun _ => s_d3_num h fun _ => s_d3_set (s_d3_set (s_d3_set h ⟨by decide, by decide⟩) ⟨by decide, by decide⟩) ⟨by decide, by decide⟩) fun _ => h
theorem s_d3_echo (h : s_d3 D) : s_d3 (s_echo b n p D).2.2 := s_d3_if (fun _ => s_d3_num h fun _ => s_d3_set (s_d3_set h ⟨by decide, by decide⟩) ⟨by decide, by decide⟩) fun _ => h
theorem s_d3_ship (h : s_d3 D) : s_d3 (s_ship b n p D).2.2 := s_d3_if (fun _ => h) fun _ => s_d3_name h fun _ => s_d3_kw h fun _ => s_d3_if (fun _ => s_d3_if (fun _ => h) fun _ => s_d3_come h fun _ _ _ _ => s_d3_if (fun _ => s_d3_S h) fun _ => s_d3_S h) fun _ => h
theorem s_d3_cart (h : s_d3 D) : s_d3 (s_cart b n p D).2.2 := s_d3_if (fun _ => h) fun _ => s_d3_name h fun _ => s_d3_come h fun _ _ _ _ => s_d3_C h
theorem s_d3_part (h : s_d3 D) : s_d3 (s_part b n p D).2.2 := s_d3_if (fun _ => s_d3_port h) fun _ => s_d3_if (fun _ => s_d3_turns h) fun _ => s_d3_if (fun _ => s_d3_frost h) fun _ => s_d3_if (fun _ => s_d3_echo h) fun _ => s_d3_if (fun _ => s_d3_ship h) fun _ => s_d3_if (fun _ => s_d3_cart h) fun _ => h
theorem s_d3_semi (h : s_d3 r.2.2) : s_d3 (s_semi b n r).2.2 := s_d3_if (fun _ => s_d3_if (fun _ => h) fun _ => h) fun _ => h
theorem s_d3_rv : ∀ (m p : Nat) (D : s_D), s_d3 D → s_d3 (s_rv b n m p D).2.2
  | 0, _, _, h => h
  | m + 1, p, D, h => s_d3_if (fun _ => h) fun _ => s_d3_if (fun _ => s_d3_rv m _ _ (s_d3_semi (s_d3_part h))) fun _ => s_d3_semi (s_d3_part h)
end TLD
noncomputable def t_RN (n : Nat) (gi : Nat → Nat → Int32) (v : Value) (o : Nat) : Prop := (v = .null ∧ (gi 70 (o + 3)).toInt = 0 ∧ (gi 70 (o + 8)).toInt = 0) ∨ ∃ u : Nat, v = .ref u ∧ (102 ≤ u ∧ u < n) ∧ (gi u 0).toInt = (gi 70 (o + 3)).toInt ∧ (gi 70 (o + 8)).toInt = 1
noncomputable def t_RnN (n : Nat) (gi : Nat → Nat → Int32) (gr : Nat → Nat → Value) : Prop := t_RN n gi (gr 0 7) 0 ∧ ∀ k : Nat, (k : Int) < (gi 0 12).toInt → t_RN n gi (gr 20 k) (350 * (k + 1))
noncomputable def t_LE (c : Nat) (sh : List (Nat ⊕ (Nat × Nat))) (gi : Nat → Nat → Int32) (gl : Nat → Nat → Int64) (gr : Nat → Nat → Value) : Prop := t_LD c sh gi gl gr ∧ t_RnN sh.length gi gr
theorem W1_N {sh : List (Nat ⊕ (Nat × Nat))} {gi : Nat → Nat → Int32} {gl : Nat → Nat → Int64} {gr : Nat → Nat → Value} (hR : x_R W1 (sh, gi, gl, gr)) : t_RnN sh.length gi gr := by
  have h7 : gr 0 7 = .null := ((x_gc_R hR (c := w1_c0) rfl).2.2.2 7 (by decide)).2.2.trans rfl
  have h3 : gi 70 3 = x_cI w1_c70 3 := ((x_gc_R hR (c := w1_c70) rfl).2.2.2 _ (by decide)).1
  have h8 : gi 70 8 = x_cI w1_c70 8 := ((x_gc_R hR (c := w1_c70) rfl).2.2.2 _ (by decide)).1
  have h12 : gi 0 12 = x_cI w1_c0 12 := ((x_gc_R hR (c := w1_c0) rfl).2.2.2 _ (by decide)).1
  refine ⟨Or.inl ⟨h7, ?_, ?_⟩, fun k hk => ?_⟩
  · show (gi 70 3).toInt = 0
    rw [h3]; decide +kernel
  · show (gi 70 8).toInt = 0
    rw [h8]; decide +kernel
  · rw [h12] at hk
    have h0 : (x_cI w1_c0 12).toInt = 0 := by decide +kernel
    omega
noncomputable def t_rsB (w1 w2 : List (Nat × Nat)) : Bool := t_ndB w1 && (t_ndB w2 && (t_un w1 (0, 7) && (t_un w2 (0, 7) && (t_un w1 (0, 12) && (t_un w2 (0, 12) && (t_nc w1 20 && (t_nc w2 20 && t_nc w1 70)))))))
section TLR
variable {sh sh1 : List (Nat ⊕ (Nat × Nat))} {gi g1 g2 : Nat → Nat → Int32} {gl l1 l2 : Nat → Nat → Int64} {gr r1 r2 : Nat → Nat → Value} {w1 w2 : List (Nat × Nat)} {A x1 x2 : Int32} {n n' o o' N N2 : Nat} {v : Value}
theorem t_RN.mv (h : t_RN n gi v o) (hn : n ≤ n') (e : ∀ K, 102 ≤ K → K < n → g1 K = gi K) (em : g1 70 (o' + 3) = gi 70 (o + 3)) (e8 : g1 70 (o' + 8) = gi 70 (o + 8)) : t_RN n' g1 v o' := by
  rcases h with ⟨a, b, b8⟩ | ⟨u, a, ⟨c1, c2⟩, b, b8⟩
  · exact Or.inl ⟨a, by rw [em]; exact b, by rw [e8]; exact b8⟩
  · exact Or.inr ⟨u, a, ⟨c1, by omega⟩, by rw [e u c1 c2, em]; exact b, by rw [e8]; exact b8⟩
theorem t_RR_gen (h : t_RnN n gi gr) (hn : n ≤ n') (e : ∀ K, 102 ≤ K → K < n → g2 K = gi K) (e7 : r2 0 7 = gr 0 7) (e12 : g2 0 12 = gi 0 12) (e20 : r2 20 = gr 20) (em : ∀ j, j < 1400 → (j % 350 = 3 ∨ j % 350 = 8) → g2 70 j = gi 70 j) (hm : (gi 0 12).toInt ≤ 3) : t_RnN n' g2 r2 := by
  refine ⟨by rw [e7]; exact h.1.mv hn e (em _ (by omega) (by omega)) (em _ (by omega) (by omega)), fun k hk => ?_⟩
  rw [e12] at hk
  rw [e20]
  exact (h.2 k hk).mv hn e (em _ (by omega) (by omega)) (em _ (by omega) (by omega))
theorem t_RR_same (h : t_RnN sh.length gi gr) (x1 : t_X w1 sh gi gl gr g1 l1 r1) (x2 : t_X w2 sh g1 l1 r1 g2 l2 r2) (hw : t_rsB w1 w2 = true) (em : ∀ j, j < 1400 → g2 70 j = g1 70 j) (hm : (gi 0 12).toInt ≤ 3) : t_RnN sh.length g2 r2 := by
  unfold t_rsB at hw
  simp only [Bool.and_eq_true] at hw
  obtain ⟨a1, a2, a3, a4, a5, a6, a7, a8, a9⟩ := hw
  have f1 := t_F_X x1
  have f2 := t_F_X x2
  refine t_RR_gen h (Nat.le_refl _) (fun K k1 _ => ?_) ?_ ?_ ?_ (fun j hj _ => ?_) hm
  · exact (t_nd_fr x2 a2 K (Or.inr k1)).1.trans (t_nd_fr x1 a1 K (Or.inr k1)).1
  · rw [(f2 0 7 (by decide) (t_un_ok a4)).2.2, (f1 0 7 (by decide) (t_un_ok a3)).2.2]
  · rw [(f2 0 12 (by decide) (t_un_ok a6)).1, (f1 0 12 (by decide) (t_un_ok a5)).1]
  · rw [t_F_nr f2 a8 (by decide), t_F_nr f1 a7 (by decide)]
  · rw [em j hj, t_F_nc f1 a9 (by decide)]
/-- the other side's call leaves the class's cells -/
theorem t_RR_m (x : t_X w2 sh1 g1 l1 r1 g2 l2 r2) (hw : (t_ndB w2 && (t_un w2 (0, 7) && (t_un w2 (0, 12) && t_nc w2 20))) = true) : (∀ K, 102 ≤ K → g2 K = g1 K) ∧ r2 0 7 = r1 0 7 ∧ g2 0 12 = g1 0 12 ∧ r2 20 = r1 20 := by
  simp only [Bool.and_eq_true] at hw
  have f := t_F_X x
  exact ⟨fun K hK => (t_nd_fr x hw.1 K (Or.inr hK)).1, (f 0 7 (by decide) (t_un_ok hw.2.1)).2.2, (f 0 12 (by decide) (t_un_ok hw.2.2.1)).1, t_F_nr f hw.2.2.2 (by decide)⟩
theorem t_RR_rules (h : t_RnN sh.length gi gr) (hT : t_TP gi) (hR : t_R gi gr) (hI2 : t_I sh1 g2 r2) (hle : sh.length ≤ sh1.length) (hm3 : (gi 0 12).toInt ≤ 3) (f1 : t_F w1 gi gl gr g1 l1 r1) (hw1 : (t_nc w1 75 && (t_nc w1 70 && (t_nc w1 20 && t_un w1 (0, 12)))) = true) (h69 : t_in w1 69 10 = false) (xm : t_X w2 sh1 g1 l1 r1 g2 l2 r2) (hw2 : (t_ndB w2 && (t_un w2 (0, 7) && (t_un w2 (0, 12) && t_nc w2 20))) = true) (em : ∀ j, 350 ≤ j → j < 1400 → g2 70 j = g1 70 j) (q1 : ((0 ≤ A.toInt ∧ A.toInt ≤ (gi 0 5).toInt ∧ A.toInt ≤ 300) → ∀ n : Nat, (n : Int) = A.toInt → t_RSR gi gl gr sh.length (gi 2) n x1 g1 l1 r1) ∧ (¬ (0 ≤ A.toInt ∧ A.toInt ≤ (gi 0 5).toInt ∧ A.toInt ≤ 300) → x1.toInt = -1 ∧ (∀ K, K ≠ 0 → g1 K = gi K ∧ l1 K = gl K ∧ r1 K = gr K) ∧ r1 0 6 = gr 0 6 ∧ r1 0 7 = gr 0 7)) (q2 : Q_n_rules g1 l1 r1 A x2 g2 l2 r2) : t_RnN sh1.length g2 r2 := by
  simp only [Bool.and_eq_true] at hw1
  obtain ⟨n75, n70, n20, n12⟩ := hw1
  have e0 : (gi 0 5).toInt = (gi 69 10).toInt := congrArg Int32.toInt (t_R_fed hR)
  have e1 : (g1 69 10).toInt = (gi 69 10).toInt := congrArg Int32.toInt (f1 69 10 (by decide) h69).1
  have r70 : g1 70 = gi 70 := t_F_nc f1 n70 (by decide)
  have r12 : g1 0 12 = gi 0 12 := (f1 0 12 (by decide) (t_un_ok n12)).1
  have r20 : r1 20 = gr 20 := t_F_nr f1 n20 (by decide)
  obtain ⟨m0, m7, m12, m20⟩ := t_RR_m xm hw2
  have same : r1 0 7 = gr 0 7 → (g2 70 3 = g1 70 3 ∧ g2 70 8 = g1 70 8) → (∀ K, 102 ≤ K → K < sh.length → g1 K = gi K) → t_RnN sh1.length g2 r2 := by
    intro s7 s3 sK
    refine t_RR_gen h hle (fun K k1 k2 => (m0 K k1).trans (sK K k1 k2)) (m7.trans s7) (m12.trans r12) (m20.trans r20) (fun j hj h3 => ?_) hm3
    by_cases hj3 : j < 350
    · rcases h3 with h3 | h3
      · rw [show j = 3 by omega, s3.1, r70]
      · rw [show j = 8 by omega, s3.2, r70]
    · rw [em j (by omega) hj, r70]
  by_cases hin : 0 ≤ A.toInt ∧ A.toInt ≤ (gi 0 5).toInt ∧ A.toInt ≤ 300
  · obtain ⟨n, hn⟩ : ∃ n : Nat, (n : Int) = A.toInt := ⟨A.toInt.toNat, by omega⟩
    have pl := (q1.1 hin n hn).2
    have pl2 : ∀ K, 102 ≤ K → K < sh.length → g1 K = gi K := fun K a b => (pl K (by omega) b).1
    rcases t_RU_two hT hR f1 n75 h69 hin q1.1 q2 with ⟨k, _, _, _, ⟨c1, c2⟩, c3, c8⟩ | ⟨_, _, s7, s3⟩
    · have hr7 : r2 0 7 = .ref (sh.length + 2) := m7.trans c1
      have hb : 102 ≤ sh.length + 2 ∧ sh.length + 2 < sh1.length := by
        rcases hI2.2.2.2.1.2.1 with hh | ⟨a, ha, hp⟩
        · exact absurd (hr7.symm.trans hh) (by intro h9; cases h9)
        · have hk : sh.length + 2 = a := Value.ref.inj (hr7.symm.trans ha)
          subst hk
          exact ⟨hp.2.1, t_lt hp.1⟩
      refine ⟨Or.inr ⟨sh.length + 2, hr7, hb, ?_, c8⟩, fun j hj => ?_⟩
      · rw [m0 _ hb.1, c2]; exact c3.symm
      · rw [m12, r12] at hj
        rw [m20, r20]
        exact (h.2 j hj).mv hle (fun K k1 k2 => (m0 K k1).trans (pl2 K k1 k2)) (by rw [em _ (by omega) (by omega), r70]) (by rw [em _ (by omega) (by omega), r70])
    · exact same s7 s3 pl2
  · have hh := q1.2 hin
    exact same hh.2.2.2 (q2.2 (by omega)).2 (fun K a _ => (hh.2.1 K (by omega)).1)
theorem t_RR_river (h : t_RnN sh.length gi gr) (hT : t_TP gi) (hR : t_R gi gr) (hle : sh.length ≤ sh1.length) (hm3 : (gi 0 12).toInt ≤ 3) (f1 : t_F w1 gi gl gr g1 l1 r1) (hw1 : (t_nc w1 75 && (t_nc w1 70 && (t_nc w1 20 && t_un w1 (0, 12)))) = true) (h69 : t_in w1 69 10 = false) (xm : t_X w2 sh1 g1 l1 r1 g2 l2 r2) (hw2 : (t_ndB w2 && (t_un w2 (0, 7) && (t_un w2 (0, 12) && t_nc w2 20))) = true) (em : ∀ j, 350 ≤ j → j < 1400 → g2 70 j = g1 70 j) (q1 : ((0 ≤ A.toInt ∧ A.toInt ≤ (gi 0 5).toInt) → ∀ n : Nat, (n : Int) = A.toInt → t_RES gi gl gr sh.length (gi 2) n x1 g1 l1 r1) ∧ (¬ (0 ≤ A.toInt ∧ A.toInt ≤ (gi 0 5).toInt) → x1.toInt = -1 ∧ (∀ K, K ≠ 0 → g1 K = gi K ∧ l1 K = gl K ∧ r1 K = gr K) ∧ r1 0 6 = gr 0 6 ∧ r1 0 7 = gr 0 7) ∧ (0 ≤ A.toInt ∧ A.toInt ≤ (gi 0 5).toInt → sh.length + 18 ≤ sh1.length)) (q2 : Q_n_river g1 l1 r1 A x2 g2 l2 r2) : t_RnN sh1.length g2 r2 := by
  simp only [Bool.and_eq_true] at hw1
  obtain ⟨n75, n70, n20, n12⟩ := hw1
  have e0 : (gi 0 5).toInt = (gi 69 10).toInt := congrArg Int32.toInt (t_R_fed hR)
  have e1 : (g1 69 10).toInt = (gi 69 10).toInt := congrArg Int32.toInt (f1 69 10 (by decide) h69).1
  have r75 : g1 75 = gi 75 := t_F_nc f1 n75 (by decide)
  have r70 : g1 70 = gi 70 := t_F_nc f1 n70 (by decide)
  have r12 : g1 0 12 = gi 0 12 := (f1 0 12 (by decide) (t_un_ok n12)).1
  have r20 : r1 20 = gr 20 := t_F_nr f1 n20 (by decide)
  obtain ⟨m0, m7, m12, m20⟩ := t_RR_m xm hw2
  have same : r1 0 7 = gr 0 7 → (g2 70 3 = g1 70 3 ∧ g2 70 8 = g1 70 8) → (∀ K, 102 ≤ K → K < sh.length → g1 K = gi K) → t_RnN sh1.length g2 r2 := by
    intro s7 s3 sK
    refine t_RR_gen h hle (fun K k1 k2 => (m0 K k1).trans (sK K k1 k2)) (m7.trans s7) (m12.trans r12) (m20.trans r20) (fun j hj h3 => ?_) hm3
    by_cases hj3 : j < 350
    · rcases h3 with h3 | h3
      · rw [show j = 3 by omega, s3.1, r70]
      · rw [show j = 8 by omega, s3.2, r70]
    · rw [em j (by omega) hj, r70]
  by_cases hin : 0 ≤ A.toInt ∧ A.toInt ≤ (gi 0 5).toInt
  · obtain ⟨n, hn⟩ : ∃ n : Nat, (n : Int) = A.toInt := ⟨A.toInt.toNat, by omega⟩
    obtain ⟨p1, pl⟩ := q1.1 hin n hn
    have pl2 : ∀ K, 102 ≤ K → K < sh.length → g1 K = gi K := fun K a b => (pl K (by omega) b).1
    have p2 := q2.1 (by omega) (gi 2) n hn (fun j hj => by rw [r75]; exact (hT j (by omega)).1.symm) (fun j hj => (hT j (by omega)).2)
    rcases p1 with ⟨q, D, a1, a2, a3, a4, a5, a6, a7, a8⟩ | ⟨p, x, D, a0, a1, a2, a3, a4, a5, a6⟩
    · rcases p2 with ⟨q', D', b1, b2, b3, b4, b5, b6⟩ | ⟨p', x', D', b0, b1, -⟩
      · have hd : s_d3 D' := Eq.mp (congrArg (fun r : s_R => s_d3 r.2.2) b1) (s_d3_rv _ _ _ ⟨rfl, rfl⟩)
        refine ⟨Or.inl ⟨m7.trans a6, b4.2.2.2.2.1.trans hd.1, b4.2.2.2.2.2.trans hd.2⟩, fun j hj => ?_⟩
        rw [m12, r12] at hj
        rw [m20, r20]
        exact (h.2 j hj).mv hle (fun K k1 k2 => (m0 K k1).trans (pl2 K k1 k2)) (by rw [em _ (by omega) (by omega), r70]) (by rw [em _ (by omega) (by omega), r70])
      · exact (s_ok_bad b0 (a1.symm.trans b1)).elim
    · rcases p2 with ⟨q', D', b1, -⟩ | ⟨p', x', D', b0, b1, b2, b3, b4, b5⟩
      · exact (s_ok_bad a0 (b1.symm.trans a1)).elim
      · exact same a6 ⟨b5 3 (by decide), b5 8 (by decide)⟩ pl2
  · have hh := q1.2.1 hin
    exact same hh.2.2.2 ⟨(q2.2 (by omega)).2 3 (by decide), (q2.2 (by omega)).2 8 (by decide)⟩ (fun K a _ => (hh.2.1 K (by omega)).1)
theorem t_RR_mark (hR : t_R gi gr) (hS : t_RnN sh.length gi gr) (hm0 : 0 ≤ (gi 0 12).toInt) (hm3 : (gi 0 12).toInt ≤ 3) (xh : t_X w1 sh gi gl gr g1 l1 r1) (hw1 : (t_ndB w1 && (t_un w1 (0, 7) && (t_nc w1 70 && t_un w1 (69, 75)))) = true) (xm : t_X w2 sh g1 l1 r1 g2 l2 r2) (hw2 : (t_ndB w2 && (t_un w2 (0, 7) && (t_un w2 (0, 12) && t_nc w2 20))) = true) (hc : ((gi 0 12).toInt = 3 → (g1 0 12).toInt = 3) ∧ ((gi 0 12).toInt ≠ 3 → (g1 0 12).toInt = (gi 0 12).toInt + 1)) (q1 : Q_d_mark gi gl gr x1 g1 l1 r1) (q2 : ((g1 69 75).toInt = 3 → g2 70 = g1 70) ∧ ((g1 69 75).toInt ≠ 3 → ∀ j, g2 70 j = t_cpy (g1 70) 0 ((g1 69 75).toInt.toNat + 1) 350 j)) : t_RnN sh.length g2 r2 := by
  simp only [Bool.and_eq_true] at hw1
  obtain ⟨n0, n7, n70, n75⟩ := hw1
  have f1 := t_F_X xh
  have r7 : r1 0 7 = gr 0 7 := (f1 0 7 (by decide) (t_un_ok n7)).2.2
  have r70 : g1 70 = gi 70 := t_F_nc f1 n70 (by decide)
  have r75 : (g1 69 75).toInt = (gi 0 12).toInt := by rw [(f1 69 75 (by decide) (t_un_ok n75)).1, ← t_R_mk hR]
  obtain ⟨m0, m7, m12, m20⟩ := t_RR_m xm hw2
  have fr : ∀ K, 102 ≤ K → K < sh.length → g2 K = gi K := fun K k1 _ => (m0 K k1).trans (t_nd_fr xh n0 K (Or.inr k1)).1
  obtain ⟨d1, d2⟩ := q1
  by_cases h3 : (gi 0 12).toInt = 3
  · have e70 : ∀ j, g2 70 j = gi 70 j := fun j => by rw [q2.1 (by omega), r70]
    refine ⟨by rw [m7, r7]; exact hS.1.mv (Nat.le_refl _) fr (e70 _) (e70 _), fun k hk => ?_⟩
    rw [m12] at hk
    have h4 := hS.2 k (by have := hc.1 h3; omega)
    rw [m20, (d2 h3).2]
    exact h4.mv (Nat.le_refl _) fr (e70 _) (e70 _)
  · have e70 : ∀ j, g2 70 j = t_cpy (gi 70) 0 ((gi 0 12).toInt.toNat + 1) 350 j := fun j => by rw [q2.2 (by omega), r70, r75]
    have ec := hc.2 h3
    have off : ∀ j, (j < 350 * ((gi 0 12).toInt.toNat + 1) ∨ 350 * ((gi 0 12).toInt.toNat + 1) + 350 ≤ j) → g2 70 j = gi 70 j := fun j hj => by
      rw [e70]; unfold t_cpy; rw [if_neg (by omega)]
    refine ⟨by rw [m7, r7]; exact hS.1.mv (Nat.le_refl _) fr (off _ (by omega)) (off _ (by omega)), fun k hk => ?_⟩
    rw [m12] at hk
    by_cases hkm : (k : Int) = (gi 0 12).toInt
    · rw [m20, (d1 h3).2, if_pos hkm]
      refine hS.1.mv (Nat.le_refl _) fr ?_ ?_
      · rw [e70]; unfold t_cpy
        rw [if_pos (by omega), show 350 * (k + 1) + 3 - 350 * ((gi 0 12).toInt.toNat + 1) + 350 * 0 = 0 + 3 by omega]
      · rw [e70]; unfold t_cpy
        rw [if_pos (by omega), show 350 * (k + 1) + 8 - 350 * ((gi 0 12).toInt.toNat + 1) + 350 * 0 = 0 + 8 by omega]
    · have h4 := hS.2 k (by omega)
      rw [m20, (d1 h3).2, if_neg hkm]
      exact h4.mv (Nat.le_refl _) fr (off _ (by omega)) (off _ (by omega))
theorem t_RR_back (hR : t_R gi gr) (hS : t_RnN sh.length gi gr) (hm0 : 0 ≤ (gi 0 12).toInt) (hm3 : (gi 0 12).toInt ≤ 3) (xh : t_X w1 sh gi gl gr g1 l1 r1) (hw1 : (t_ndB w1 && (t_nc w1 20 && (t_nc w1 70 && t_un w1 (69, 75)))) = true) (xm : t_X w2 sh g1 l1 r1 g2 l2 r2) (hw2 : (t_ndB w2 && (t_un w2 (0, 7) && (t_un w2 (0, 12) && t_nc w2 20))) = true) (hc : ((gi 0 12).toInt = 0 → (g1 0 12).toInt = 0) ∧ ((gi 0 12).toInt ≠ 0 → (g1 0 12).toInt = (gi 0 12).toInt - 1)) (q1 : Q_d_back gi gl gr x1 g1 l1 r1) (q2 : ((g1 69 75).toInt = 0 → g2 70 = g1 70) ∧ ((g1 69 75).toInt ≠ 0 → ∀ j, g2 70 j = t_cpy (g1 70) (g1 69 75).toInt.toNat 0 350 j)) : t_RnN sh.length g2 r2 := by
  simp only [Bool.and_eq_true] at hw1
  obtain ⟨n0, n20, n70, n75⟩ := hw1
  have f1 := t_F_X xh
  have r20 : r1 20 = gr 20 := t_F_nr f1 n20 (by decide)
  have r70 : g1 70 = gi 70 := t_F_nc f1 n70 (by decide)
  have r75 : (g1 69 75).toInt = (gi 0 12).toInt := by rw [(f1 69 75 (by decide) (t_un_ok n75)).1, ← t_R_mk hR]
  obtain ⟨m0, m7, m12, m20⟩ := t_RR_m xm hw2
  have fr : ∀ K, 102 ≤ K → K < sh.length → g2 K = gi K := fun K k1 _ => (m0 K k1).trans (t_nd_fr xh n0 K (Or.inr k1)).1
  obtain ⟨d1, d2⟩ := q1
  by_cases h3 : (gi 0 12).toInt = 0
  · have e70 : ∀ j, g2 70 j = gi 70 j := fun j => by rw [q2.1 (by omega), r70]
    refine ⟨by rw [m7, (d1 h3).2]; exact hS.1.mv (Nat.le_refl _) fr (e70 _) (e70 _), fun k hk => ?_⟩
    rw [m12] at hk
    have := hc.1 h3
    omega
  · have e70 : ∀ j, g2 70 j = t_cpy (gi 70) (gi 0 12).toInt.toNat 0 350 j := fun j => by rw [q2.2 (by omega), r70, r75]
    have ec := hc.2 h3
    have off : ∀ j, 350 ≤ j → g2 70 j = gi 70 j := fun j hj => by
      rw [e70]; unfold t_cpy; rw [if_neg (by omega)]
    refine ⟨?_, fun k hk => ?_⟩
    · rw [m7, (d2 h3).2]
      refine (hS.2 ((gi 0 12).toInt - 1).toNat (by omega)).mv (Nat.le_refl _) fr ?_ ?_
      · rw [e70]; unfold t_cpy
        rw [if_pos (by omega), show 0 + 3 - 350 * 0 + 350 * (gi 0 12).toInt.toNat = 350 * (((gi 0 12).toInt - 1).toNat + 1) + 3 by omega]
      · rw [e70]; unfold t_cpy
        rw [if_pos (by omega), show 0 + 8 - 350 * 0 + 350 * (gi 0 12).toInt.toNat = 350 * (((gi 0 12).toInt - 1).toNat + 1) + 8 by omega]
    · rw [m12] at hk
      have h4 := hS.2 k (by omega)
      rw [m20, r20]
      exact h4.mv (Nat.le_refl _) fr (off _ (by omega)) (off _ (by omega))
theorem t_L_told (hD : t_DR sh.length gi gl gr) (hS : t_RnN sh.length gi gr) (f1 : t_F w1 gi gl gr g1 l1 r1) (h70 : t_nc w1 70 = true) (q1 : Q_d_told gi gl gr A x1 g1 l1 r1) (q2 : Q_e_told g1 l1 r1 A x2 g2 l2 r2) : x1 = x2 := by
  obtain ⟨u, D, hu, hl, hc, hb, hm, -⟩ := t_D_0 hD f1 h70
  have k1 := q1 u D hu hl hc hb
  have r70 : g1 70 = gi 70 := t_F_nc f1 h70 (by decide)
  apply Int32.toInt_inj.mp
  by_cases hin : 0 ≤ A.toInt ∧ A.toInt ≤ 7
  · rw [q2.1 hin]
    by_cases h3 : A.toInt = 3
    · rw [h3]
      show x1.toInt = (g1 70 3).toInt
      rw [r70]
      rcases hS.1 with ⟨a, b, -⟩ | ⟨u2, a, -, b, -⟩
      · rw [(k1.2.1 h3).1 a]; exact b.symm
      · rw [(k1.2.1 h3).2 u2 a]; exact b
    · rw [k1.1 (by omega)]
      have hA : A.toInt.toNat = 0 ∨ A.toInt.toNat = 1 ∨ A.toInt.toNat = 2 ∨ A.toInt.toNat = 4 ∨ A.toInt.toNat = 5 ∨ A.toInt.toNat = 6 ∨ A.toInt.toNat = 7 := by omega
      rcases hA with h | h | h | h | h | h | h
      · rw [h]; exact hm.1.1.1.symm
      · rw [h]; exact hm.1.1.2.1.symm
      · rw [h]; exact hm.1.1.2.2.symm
      · rw [h]; exact hm.1.2.1.symm
      · rw [h]; exact hm.1.2.2.1.symm
      · rw [h]; exact hm.1.2.2.2.1.symm
      · rw [h]; exact hm.1.2.2.2.2.symm
  · rw [k1.2.2 hin, q2.2 hin]
end TLR
/-! ===== printed by riv.py: what odds() answers ===== -/
noncomputable def wl_d_odds : List (Nat × Nat) := [(0, 0), (0, 1), (0, 2), (45, 4), (45, 5), (45, 6), (45, 7), (45, 8), (45, 9), (45, 10), (45, 11), (45, 12), (45, 13), (45, 14), (46, 0), (47, 9999), (48, 9999), (49, 9999), (50, 9999), (51, 9999), (52, 0), (53, 9999), (54, 9999), (55, 9999), (56, 9999), (57, 9999), (58, 9999), (59, 9999)]
noncomputable def Q_d_odds (gi : Nat → Nat → Int32) (gl : Nat → Nat → Int64) (gr : Nat → Nat → Value) (ar1 : Int32) (ar2 : Int32) : Int32 → (Nat → Nat → Int32) → (Nat → Nat → Int64) → (Nat → Nat → Value) → Prop := fun (v : Int32) (gi2 : Nat → Nat → Int32) (gl2 : Nat → Nat → Int64) (gr2 : Nat → Nat → Value) => ((0 ≤ ar1.toInt ∧ ar1.toInt ≤ 9999 ∧ 1 ≤ ar2.toInt ∧ ar2.toInt ≤ 20 ∧ ar1.toInt + ar2.toInt ≤ 10000) ∧ gr 0 7 ≠ .null → v.toInt = 1) ∧ (¬ ((0 ≤ ar1.toInt ∧ ar1.toInt ≤ 9999 ∧ 1 ≤ ar2.toInt ∧ ar2.toInt ≤ 20 ∧ ar1.toInt + ar2.toInt ≤ 10000) ∧ gr 0 7 ≠ .null) → v.toInt = 0)
theorem c_d_odds {X : x_Ext} {d : Nat} {sh : List (Nat ⊕ (Nat × Nat))} {gi : Nat → Nat → Int32} {gl : Nat → Nat → Int64} {gr : Nat → Nat → Value} (hI : t_I sh gi gr) (ar1 : Int32) (ar2 : Int32) : x_Me X (d + 6) n_X11_odds [.ref 0, .int ar1, .int ar2] (sh, gi, gl, gr) (t_PI wl_d_odds sh gi gl gr 0 1 (Q_d_odds gi gl gr ar1 ar2)) := by
  have hX : t_X wl_d_odds sh gi gl gr gi gl gr := t_X.rf
  refine me_i f_X11_odds (hI.wf.s rfl) rfl rfl rfl ?_
  refine ev_loc f_X11_odds (nx := 1) rfl rfl rfl rfl ?_
  refine ev_loc f_X11_odds (nx := 2) rfl rfl rfl rfl ?_
  refine ev_loc f_X11_odds (nx := 3) rfl rfl rfl rfl ?_
  refine ev_inV3 f_X11_odds (nx := 6) (lo2 := [(0, .ref 0), (1, .int ar1), (2, .int ar2)]) rfl rfl rfl rfl f_X11_wrongSeeds (hI.wf.s rfl) rfl rfl rfl rfl rfl ?_
  refine ev_loc f_X11_wrongSeeds (nx := 1) rfl rfl rfl rfl ?_
  refine ev_if f_X11_wrongSeeds (t1 := 33) (t2 := 4) rfl rfl rfl (fun h1 => ?_) (fun h1 => ?_)
  · have u2 : ar1.toInt ≤ (-1) := t_ltu h1 (by decide : (0:Int32).toInt ≤ (0:Int)) rfl
    refine ev_ic f_X11_wrongSeeds (nx := 34) (v := 1) rfl (by decide) rfl ?_
    refine ev_retK1 f_X11_wrongSeeds rfl rfl rfl ?_
    refine ev_loc f_X11_odds (nx := 7) (lo' := [(3, .int 1), (0, .ref 0), (1, .int ar1), (2, .int ar2)]) rfl rfl rfl rfl ?_
    refine ev_loc f_X11_odds (nx := 8) rfl rfl rfl rfl ?_
    refine ev_f f_X11_odds (t1 := 17) (t2 := 11) rfl rfl rfl (by decide) ?_
    refine ev_loc f_X11_odds (nx := 12) rfl rfl rfl rfl ?_
    refine ev_loc f_X11_odds (nx := 13) rfl rfl rfl rfl ?_
    refine ev_inV2 f_X11_odds (nx := 16) (lo2 := [(0, .ref 0), (1, .int 1)]) rfl rfl rfl rfl f_X11_deny (hI.wf.s rfl) rfl rfl rfl rfl rfl ?_
    refine ev_loc f_X11_deny (nx := 1) rfl rfl rfl rfl ?_
    refine ev_loc f_X11_deny (nx := 2) rfl rfl rfl rfl ?_
    refine ev_putIT f_X11_deny (nx := 5) rfl (hI.wf.s rfl) rfl rfl rfl (hI.put0 (hI.wf.s rfl) rfl rfl) (hX.upI rfl) (fun g3 e3 hI hX => ?_)
    refine ev_ic f_X11_deny (nx := 6) (v := 0) rfl (by decide) rfl ?_
    refine ev_retK1 f_X11_deny rfl rfl rfl ?_
    exact ev_ret f_X11_odds rfl rfl rfl ⟨_, _, _, rfl, hI, hX, ⟨_, rfl, (by decide : (0:Int) ≤ (0:Int32).toInt), (Int.le_trans (by decide : (0:Int32).toInt ≤ (0:Int)) (by decide : (0:Int) ≤ 1)), (show ((0 ≤ ar1.toInt ∧ ar1.toInt ≤ 9999 ∧ 1 ≤ ar2.toInt ∧ ar2.toInt ≤ 20 ∧ ar1.toInt + ar2.toInt ≤ 10000) ∧ gr 0 7 ≠ .null → (0 : Int) = 1) ∧ (¬ ((0 ≤ ar1.toInt ∧ ar1.toInt ≤ 9999 ∧ 1 ≤ ar2.toInt ∧ ar2.toInt ≤ 20 ∧ ar1.toInt + ar2.toInt ≤ 10000) ∧ gr 0 7 ≠ .null) → (0 : Int) = 0) from ⟨fun h => absurd h.1 (by omega), fun _ => rfl⟩)⟩⟩
  · have l4 : 0 ≤ ar1.toInt := t_lel (t_nlt h1) (by decide : (0:Int) ≤ (0:Int32).toInt)
    refine ev_loc f_X11_wrongSeeds (nx := 5) rfl rfl rfl rfl ?_
    refine ev_sp f_X11_wrongSeeds (nx := 8) (v := 9999) rfl (by decide) rfl ?_
    refine ev_if f_X11_wrongSeeds (t1 := 33) (t2 := 11) rfl rfl rfl (fun h5 => ?_) (fun h5 => ?_)
    · have l6 : 10000 ≤ ar1.toInt := t_ltl h5 (by decide : (9999:Int) ≤ (9999:Int32).toInt) rfl
      refine ev_ic f_X11_wrongSeeds (nx := 34) (v := 1) rfl (by decide) rfl ?_
      refine ev_retK1 f_X11_wrongSeeds rfl rfl rfl ?_
      refine ev_loc f_X11_odds (nx := 7) (lo' := [(3, .int 1), (0, .ref 0), (1, .int ar1), (2, .int ar2)]) rfl rfl rfl rfl ?_
      refine ev_loc f_X11_odds (nx := 8) rfl rfl rfl rfl ?_
      refine ev_f f_X11_odds (t1 := 17) (t2 := 11) rfl rfl rfl (by decide) ?_
      refine ev_loc f_X11_odds (nx := 12) rfl rfl rfl rfl ?_
      refine ev_loc f_X11_odds (nx := 13) rfl rfl rfl rfl ?_
      refine ev_inV2 f_X11_odds (nx := 16) (lo2 := [(0, .ref 0), (1, .int 1)]) rfl rfl rfl rfl f_X11_deny (hI.wf.s rfl) rfl rfl rfl rfl rfl ?_
      refine ev_loc f_X11_deny (nx := 1) rfl rfl rfl rfl ?_
      refine ev_loc f_X11_deny (nx := 2) rfl rfl rfl rfl ?_
      refine ev_putIT f_X11_deny (nx := 5) rfl (hI.wf.s rfl) rfl rfl rfl (hI.put0 (hI.wf.s rfl) rfl rfl) (hX.upI rfl) (fun g7 e7 hI hX => ?_)
      refine ev_ic f_X11_deny (nx := 6) (v := 0) rfl (by decide) rfl ?_
      refine ev_retK1 f_X11_deny rfl rfl rfl ?_
      exact ev_ret f_X11_odds rfl rfl rfl ⟨_, _, _, rfl, hI, hX, ⟨_, rfl, (by decide : (0:Int) ≤ (0:Int32).toInt), (Int.le_trans (by decide : (0:Int32).toInt ≤ (0:Int)) (by decide : (0:Int) ≤ 1)), (show ((0 ≤ ar1.toInt ∧ ar1.toInt ≤ 9999 ∧ 1 ≤ ar2.toInt ∧ ar2.toInt ≤ 20 ∧ ar1.toInt + ar2.toInt ≤ 10000) ∧ gr 0 7 ≠ .null → (0 : Int) = 1) ∧ (¬ ((0 ≤ ar1.toInt ∧ ar1.toInt ≤ 9999 ∧ 1 ≤ ar2.toInt ∧ ar2.toInt ≤ 20 ∧ ar1.toInt + ar2.toInt ≤ 10000) ∧ gr 0 7 ≠ .null) → (0 : Int) = 0) from ⟨fun h => absurd h.1 (by omega), fun _ => rfl⟩)⟩⟩
    · have u8 : ar1.toInt ≤ 9999 := t_leu (t_nlt h5) (by decide : (9999:Int32).toInt ≤ (9999:Int))
      refine ev_loc f_X11_wrongSeeds (nx := 12) rfl rfl rfl rfl ?_
      refine ev_ic f_X11_wrongSeeds (nx := 13) (v := 1) rfl (by decide) rfl ?_
      refine ev_if f_X11_wrongSeeds (t1 := 33) (t2 := 16) rfl rfl rfl (fun h9 => ?_) (fun h9 => ?_)
      · have u10 : ar2.toInt ≤ 0 := t_ltu h9 (by decide : (1:Int32).toInt ≤ (1:Int)) rfl
        refine ev_ic f_X11_wrongSeeds (nx := 34) (v := 1) rfl (by decide) rfl ?_
        refine ev_retK1 f_X11_wrongSeeds rfl rfl rfl ?_
        refine ev_loc f_X11_odds (nx := 7) (lo' := [(3, .int 1), (0, .ref 0), (1, .int ar1), (2, .int ar2)]) rfl rfl rfl rfl ?_
        refine ev_loc f_X11_odds (nx := 8) rfl rfl rfl rfl ?_
        refine ev_f f_X11_odds (t1 := 17) (t2 := 11) rfl rfl rfl (by decide) ?_
        refine ev_loc f_X11_odds (nx := 12) rfl rfl rfl rfl ?_
        refine ev_loc f_X11_odds (nx := 13) rfl rfl rfl rfl ?_
        refine ev_inV2 f_X11_odds (nx := 16) (lo2 := [(0, .ref 0), (1, .int 1)]) rfl rfl rfl rfl f_X11_deny (hI.wf.s rfl) rfl rfl rfl rfl rfl ?_
        refine ev_loc f_X11_deny (nx := 1) rfl rfl rfl rfl ?_
        refine ev_loc f_X11_deny (nx := 2) rfl rfl rfl rfl ?_
        refine ev_putIT f_X11_deny (nx := 5) rfl (hI.wf.s rfl) rfl rfl rfl (hI.put0 (hI.wf.s rfl) rfl rfl) (hX.upI rfl) (fun g11 e11 hI hX => ?_)
        refine ev_ic f_X11_deny (nx := 6) (v := 0) rfl (by decide) rfl ?_
        refine ev_retK1 f_X11_deny rfl rfl rfl ?_
        exact ev_ret f_X11_odds rfl rfl rfl ⟨_, _, _, rfl, hI, hX, ⟨_, rfl, (by decide : (0:Int) ≤ (0:Int32).toInt), (Int.le_trans (by decide : (0:Int32).toInt ≤ (0:Int)) (by decide : (0:Int) ≤ 1)), (show ((0 ≤ ar1.toInt ∧ ar1.toInt ≤ 9999 ∧ 1 ≤ ar2.toInt ∧ ar2.toInt ≤ 20 ∧ ar1.toInt + ar2.toInt ≤ 10000) ∧ gr 0 7 ≠ .null → (0 : Int) = 1) ∧ (¬ ((0 ≤ ar1.toInt ∧ ar1.toInt ≤ 9999 ∧ 1 ≤ ar2.toInt ∧ ar2.toInt ≤ 20 ∧ ar1.toInt + ar2.toInt ≤ 10000) ∧ gr 0 7 ≠ .null) → (0 : Int) = 0) from ⟨fun h => absurd h.1 (by omega), fun _ => rfl⟩)⟩⟩
      · have l12 : 1 ≤ ar2.toInt := t_lel (t_nlt h9) (by decide : (1:Int) ≤ (1:Int32).toInt)
        refine ev_loc f_X11_wrongSeeds (nx := 17) rfl rfl rfl rfl ?_
        refine ev_bp f_X11_wrongSeeds (nx := 19) (v := 20) rfl (by decide) rfl ?_
        refine ev_if f_X11_wrongSeeds (t1 := 33) (t2 := 22) rfl rfl rfl (fun h13 => ?_) (fun h13 => ?_)
        · have l14 : 21 ≤ ar2.toInt := t_ltl h13 (by decide : (20:Int) ≤ (20:Int32).toInt) rfl
          refine ev_ic f_X11_wrongSeeds (nx := 34) (v := 1) rfl (by decide) rfl ?_
          refine ev_retK1 f_X11_wrongSeeds rfl rfl rfl ?_
          refine ev_loc f_X11_odds (nx := 7) (lo' := [(3, .int 1), (0, .ref 0), (1, .int ar1), (2, .int ar2)]) rfl rfl rfl rfl ?_
          refine ev_loc f_X11_odds (nx := 8) rfl rfl rfl rfl ?_
          refine ev_f f_X11_odds (t1 := 17) (t2 := 11) rfl rfl rfl (by decide) ?_
          refine ev_loc f_X11_odds (nx := 12) rfl rfl rfl rfl ?_
          refine ev_loc f_X11_odds (nx := 13) rfl rfl rfl rfl ?_
          refine ev_inV2 f_X11_odds (nx := 16) (lo2 := [(0, .ref 0), (1, .int 1)]) rfl rfl rfl rfl f_X11_deny (hI.wf.s rfl) rfl rfl rfl rfl rfl ?_
          refine ev_loc f_X11_deny (nx := 1) rfl rfl rfl rfl ?_
          refine ev_loc f_X11_deny (nx := 2) rfl rfl rfl rfl ?_
          refine ev_putIT f_X11_deny (nx := 5) rfl (hI.wf.s rfl) rfl rfl rfl (hI.put0 (hI.wf.s rfl) rfl rfl) (hX.upI rfl) (fun g15 e15 hI hX => ?_)
          refine ev_ic f_X11_deny (nx := 6) (v := 0) rfl (by decide) rfl ?_
          refine ev_retK1 f_X11_deny rfl rfl rfl ?_
          exact ev_ret f_X11_odds rfl rfl rfl ⟨_, _, _, rfl, hI, hX, ⟨_, rfl, (by decide : (0:Int) ≤ (0:Int32).toInt), (Int.le_trans (by decide : (0:Int32).toInt ≤ (0:Int)) (by decide : (0:Int) ≤ 1)), (show ((0 ≤ ar1.toInt ∧ ar1.toInt ≤ 9999 ∧ 1 ≤ ar2.toInt ∧ ar2.toInt ≤ 20 ∧ ar1.toInt + ar2.toInt ≤ 10000) ∧ gr 0 7 ≠ .null → (0 : Int) = 1) ∧ (¬ ((0 ≤ ar1.toInt ∧ ar1.toInt ≤ 9999 ∧ 1 ≤ ar2.toInt ∧ ar2.toInt ≤ 20 ∧ ar1.toInt + ar2.toInt ≤ 10000) ∧ gr 0 7 ≠ .null) → (0 : Int) = 0) from ⟨fun h => absurd h.1 (by omega), fun _ => rfl⟩)⟩⟩
        · have u16 : ar2.toInt ≤ 20 := t_leu (t_nlt h13) (by decide : (20:Int32).toInt ≤ (20:Int))
          refine ev_loc f_X11_wrongSeeds (nx := 23) rfl rfl rfl rfl ?_
          refine ev_loc f_X11_wrongSeeds (nx := 24) rfl rfl rfl rfl ?_
          refine ev_addR f_X11_wrongSeeds (nx := 25) (l := 1) (u := 10019) rfl l4 u8 l12 u16 rfl rfl (by decide) (by decide) rfl (fun z17 e17 l17 u17 => ?_)
          refine ev_ic f_X11_wrongSeeds (nx := 26) (v := 1) rfl (by decide) rfl ?_
          refine ev_subC f_X11_wrongSeeds (nx := 27) (c := 1) (l := 0) (u := 10018) rfl (by decide) l17 u17 rfl rfl (by decide) (by decide) rfl (fun z18 e18 l18 u18 => ?_)
          refine ev_sp f_X11_wrongSeeds (nx := 30) (v := 9999) rfl (by decide) rfl ?_
          refine ev_if f_X11_wrongSeeds (t1 := 35) (t2 := 33) rfl rfl rfl (fun h19 => ?_) (fun h19 => ?_)
          · have u20 : z18.toInt ≤ 9999 := t_leu h19 (by decide : (9999:Int32).toInt ≤ (9999:Int))
            refine ev_loc f_X11_wrongSeeds (nx := 36) rfl rfl rfl rfl ?_
            rcases hI.2.2.2.1.2.1 with e21 | ⟨a21, e21, p21⟩
            · refine ev_getR f_X11_wrongSeeds (nx := 39) rfl (hI.wf.s rfl) rfl rfl e21 rfl rfl ?_
              refine ev_jmp f_X11_wrongSeeds (nx := 42) rfl rfl rfl ?_
              refine ev_bp f_X11_wrongSeeds (nx := 44) (v := 6) rfl (by decide) rfl ?_
              refine ev_jmp f_X11_wrongSeeds (nx := 48) rfl rfl rfl ?_
              refine ev_retK1 f_X11_wrongSeeds rfl rfl rfl ?_
              refine ev_loc f_X11_odds (nx := 7) (lo' := [(3, .int 6), (0, .ref 0), (1, .int ar1), (2, .int ar2)]) rfl rfl rfl rfl ?_
              refine ev_loc f_X11_odds (nx := 8) rfl rfl rfl rfl ?_
              refine ev_f f_X11_odds (t1 := 17) (t2 := 11) rfl rfl rfl (by decide) ?_
              refine ev_loc f_X11_odds (nx := 12) rfl rfl rfl rfl ?_
              refine ev_loc f_X11_odds (nx := 13) rfl rfl rfl rfl ?_
              refine ev_inV2 f_X11_odds (nx := 16) (lo2 := [(0, .ref 0), (1, .int 6)]) rfl rfl rfl rfl f_X11_deny (hI.wf.s rfl) rfl rfl rfl rfl rfl ?_
              refine ev_loc f_X11_deny (nx := 1) rfl rfl rfl rfl ?_
              refine ev_loc f_X11_deny (nx := 2) rfl rfl rfl rfl ?_
              refine ev_putIT f_X11_deny (nx := 5) rfl (hI.wf.s rfl) rfl rfl rfl (hI.put0 (hI.wf.s rfl) rfl rfl) (hX.upI rfl) (fun g22 e22 hI hX => ?_)
              refine ev_ic f_X11_deny (nx := 6) (v := 0) rfl (by decide) rfl ?_
              refine ev_retK1 f_X11_deny rfl rfl rfl ?_
              exact ev_ret f_X11_odds rfl rfl rfl ⟨_, _, _, rfl, hI, hX, ⟨_, rfl, (by decide : (0:Int) ≤ (0:Int32).toInt), (Int.le_trans (by decide : (0:Int32).toInt ≤ (0:Int)) (by decide : (0:Int) ≤ 1)), (show ((0 ≤ ar1.toInt ∧ ar1.toInt ≤ 9999 ∧ 1 ≤ ar2.toInt ∧ ar2.toInt ≤ 20 ∧ ar1.toInt + ar2.toInt ≤ 10000) ∧ gr 0 7 ≠ .null → (0 : Int) = 1) ∧ (¬ ((0 ≤ ar1.toInt ∧ ar1.toInt ≤ 9999 ∧ 1 ≤ ar2.toInt ∧ ar2.toInt ≤ 20 ∧ ar1.toInt + ar2.toInt ≤ 10000) ∧ gr 0 7 ≠ .null) → (0 : Int) = 0) from ⟨fun h => absurd e21 h.2, fun _ => rfl⟩)⟩⟩
            · refine ev_getR f_X11_wrongSeeds (nx := 39) rfl (hI.wf.s rfl) rfl rfl e21 rfl rfl ?_
              refine ev_jmp f_X11_wrongSeeds (nx := 47) rfl rfl rfl ?_
              refine ev_ic f_X11_wrongSeeds (nx := 48) (v := 0) rfl (by decide) rfl ?_
              refine ev_retK1 f_X11_wrongSeeds rfl rfl rfl ?_
              refine ev_loc f_X11_odds (nx := 7) (lo' := [(3, .int 0), (0, .ref 0), (1, .int ar1), (2, .int ar2)]) rfl rfl rfl rfl ?_
              refine ev_loc f_X11_odds (nx := 8) rfl rfl rfl rfl ?_
              refine ev_t f_X11_odds (t1 := 17) (t2 := 11) rfl rfl rfl (by decide) ?_
              refine ev_ic f_X11_odds (nx := 18) (v := 0) rfl (by decide) rfl ?_
              refine ev_loc f_X11_odds (nx := 20) (lo' := [(4, .int 0), (3, .int 0), (0, .ref 0), (1, .int ar1), (2, .int ar2)]) rfl rfl rfl rfl ?_
              refine ev_ic f_X11_odds (nx := 21) (v := 0) rfl (by decide) rfl ?_
              refine ev_loc f_X11_odds (nx := 23) (lo' := [(5, .int 0), (4, .int 0), (3, .int 0), (0, .ref 0), (1, .int ar1), (2, .int ar2)]) rfl rfl rfl rfl ?_
              have L23 : ∀ (m23 : Nat) (gi23 : Nat → Nat → Int32) (gl23 : Nat → Nat → Int64) (gr23 : Nat → Nat → Value) (y23_5 : Int32) (y23_4 : Int32), t_I sh gi23 gr23 → t_X wl_d_odds sh gi gl gr gi23 gl23 gr23 → t_Ru sh gr23 a21 → 0 ≤ y23_5.toInt → y23_5.toInt ≤ 20 → gr23 0 7 = .ref a21 → (20 - y23_5.toInt).toNat = m23 → x_Ev X (d + 6) n_X11_odds 23 [(5, .int y23_5), (4, .int y23_4), (3, .int 0), (0, .ref 0), (1, .int ar1), (2, .int ar2)] [] (sh, gi23, gl23, gr23) (t_PI wl_d_odds sh gi gl gr 0 1 (Q_d_odds gi gl gr ar1 ar2)) := by
                intro m23
                induction m23 using Nat.strongRecOn with
                | _ m23 ih23 =>
                intro gi23 gl23 gr23 y23_5 y23_4 hI hX p21 l23_5 u23_5 c23_0 hm23
                refine ev_loc f_X11_odds (nx := 25) rfl rfl rfl rfl ?_
                refine ev_loc f_X11_odds (nx := 26) rfl rfl rfl rfl ?_
                refine ev_if f_X11_odds (t1 := 77) (t2 := 29) rfl rfl rfl (fun h24 => ?_) (fun h24 => ?_)
                · have r25 : ar2.toInt ≤ y23_5.toInt := Int32.le_iff_toInt_le.mp h24
                  have l26 : 1 ≤ y23_5.toInt := t_lel h24 l12
                  refine ev_loc f_X11_odds (nx := 78) rfl rfl rfl rfl ?_
                  refine ev_loc f_X11_odds (nx := 80) rfl rfl rfl rfl ?_
                  refine ev_loc f_X11_odds (nx := 81) rfl rfl rfl rfl ?_
                  refine ev_c0 f_X11_odds (nx := 84) (r := []) rfl rfl rfl rfl rfl rfl rfl (c_tellFraction hI (y23_4) (ar2)) rfl hX rfl (fun gi27 gl27 gr27 hI hX hC27 => ?_)
                  replace p21 := p21.ext hC27.2
                  refine ev_loc f_X11_odds (nx := 85) rfl rfl rfl rfl ?_
                  refine ev_inV1 f_X11_odds (nx := 88) (lo2 := [(0, .ref 0)]) rfl rfl rfl rfl f_X11_grant (hI.wf.s rfl) rfl rfl rfl rfl rfl ?_
                  refine ev_loc f_X11_grant (nx := 1) rfl rfl rfl rfl ?_
                  refine ev_ic f_X11_grant (nx := 2) (v := 0) rfl (by decide) rfl ?_
                  refine ev_putIT f_X11_grant (nx := 5) rfl (hI.wf.s rfl) rfl rfl rfl (hI.put0 (hI.wf.s rfl) rfl rfl) (hX.upI rfl) (fun g28 e28 hI hX => ?_)
                  refine ev_ic f_X11_grant (nx := 6) (v := 1) rfl (by decide) rfl ?_
                  refine ev_retK1 f_X11_grant rfl rfl rfl ?_
                  exact ev_ret f_X11_odds rfl rfl rfl ⟨_, _, _, rfl, hI, hX, ⟨_, rfl, (Int.le_trans (by decide : (0:Int) ≤ 1) (by decide : (1:Int) ≤ (1:Int32).toInt)), (by decide : (1:Int32).toInt ≤ (1:Int)), (show ((0 ≤ ar1.toInt ∧ ar1.toInt ≤ 9999 ∧ 1 ≤ ar2.toInt ∧ ar2.toInt ≤ 20 ∧ ar1.toInt + ar2.toInt ≤ 10000) ∧ gr 0 7 ≠ .null → (1 : Int) = 1) ∧ (¬ ((0 ≤ ar1.toInt ∧ ar1.toInt ≤ 9999 ∧ 1 ≤ ar2.toInt ∧ ar2.toInt ≤ 20 ∧ ar1.toInt + ar2.toInt ≤ 10000) ∧ gr 0 7 ≠ .null) → (1 : Int) = 0) from ⟨fun _ => rfl, fun h => absurd (show _ from ⟨⟨by omega, by omega, by omega, by omega, by omega⟩, (fun hh => (by have h9 := ((hX.1 0 7 rfl).2.2.symm.trans ((hC27.1 0 7 rfl).2.2.trans c23_0)).symm.trans hh; cases h9))⟩) h⟩)⟩⟩
                · have r29 : y23_5.toInt < ar2.toInt := Int32.lt_iff_toInt_lt.mp (t_nle h24)
                  have u30 : y23_5.toInt ≤ 19 := t_ltu (t_nle h24) u16 rfl
                  refine ev_loc f_X11_odds (nx := 30) rfl rfl rfl rfl ?_
                  refine ev_getR f_X11_odds (nx := 33) rfl (hI.wf.s rfl) rfl rfl (hI.wf.r rfl) rfl rfl ?_
                  refine ev_loc f_X11_odds (nx := 34) rfl rfl rfl rfl ?_
                  obtain ⟨a31, e31, p31⟩ := hI.2.2.2.1.1
                  refine ev_getR f_X11_odds (nx := 37) rfl (hI.wf.s rfl) rfl rfl e31 rfl rfl ?_
                  refine ev_loc f_X11_odds (nx := 38) rfl rfl rfl rfl ?_
                  refine ev_getR f_X11_odds (nx := 41) (v := .ref a21) rfl (hI.wf.s rfl) rfl rfl c23_0 rfl rfl ?_
                  refine ev_loc f_X11_odds (nx := 42) rfl rfl rfl rfl ?_
                  refine ev_loc f_X11_odds (nx := 44) rfl rfl rfl rfl ?_
                  refine ev_addR f_X11_odds (nx := 45) (l := 0) (u := 10018) rfl l4 u8 l23_5 u30 rfl rfl (by decide) (by decide) rfl (fun z32 e32 l32 u32 => ?_)
                  refine ev_c0 f_X11_odds (nx := 48) (r := []) rfl rfl rfl rfl rfl rfl rfl (c_spendDay hI (a31) p31 (a21) p21 (z32)) rfl hX rfl (fun gi33 gl33 gr33 hI hX hC33 => ?_)
                  replace p21 := p21.ext hC33.2
                  replace p31 := p31.ext hC33.2
                  refine ev_loc f_X11_odds (nx := 49) rfl rfl rfl rfl ?_
                  refine ev_getR f_X11_odds (nx := 52) rfl (hI.wf.s rfl) rfl rfl (hI.wf.r rfl) rfl rfl ?_
                  refine ev_getI f_X11_odds (nx := 55) rfl (hI.wf.s rfl) rfl rfl rfl ?_
                  refine ev_if f_X11_odds (t1 := 58) (t2 := 71) rfl rfl rfl (fun h34 => ?_) (fun h34 => ?_)
                  · have u35 : (gi33 45 12).toInt ≤ 0 := t_equ h34 (by decide : (0:Int32).toInt ≤ (0:Int))
                    have l36 : 0 ≤ (gi33 45 12).toInt := t_eql h34 (by decide : (0:Int) ≤ (0:Int32).toInt)
                    refine ev_loc f_X11_odds (nx := 59) rfl rfl rfl rfl ?_
                    refine ev_getR f_X11_odds (nx := 62) rfl (hI.wf.s rfl) rfl rfl (hI.wf.r rfl) rfl rfl ?_
                    refine ev_cI f_X11_odds (nx := 65) (r := []) rfl rfl rfl rfl rfl rfl rfl (c_left hI ) rfl hX rfl (fun w37 gi37 gl37 gr37 l37 u37 hI hX hC37 => ?_)
                    replace p21 := p21.ext hC37.2
                    replace p31 := p31.ext hC37.2
                    refine ev_if f_X11_odds (t1 := 68) (t2 := 71) rfl rfl rfl (fun h38 => ?_) (fun h38 => ?_)
                    · have u39 : w37.toInt ≤ 0 := t_equ h38 (by decide : (0:Int32).toInt ≤ (0:Int))
                      have l40 : 0 ≤ w37.toInt := t_eql h38 (by decide : (0:Int) ≤ (0:Int32).toInt)
                      refine ev_incN f_X11_odds (nx := 71) rfl rfl (by decide) rfl (fun z41 => ?_)
                      refine ev_incR f_X11_odds (nx := 74) (c := 1) (l := 1) (u := 20) rfl rfl (by decide) (by decide) l23_5 u30 rfl rfl (by decide) (by decide) rfl (fun z42 e42 l42 u42 => ?_)
                      refine ev_jmp f_X11_odds (nx := 23) rfl rfl rfl ?_
                      refine ev_sub (lo := [(5, .int z42), (4, .int z41), (3, .int 0), (0, .ref 0), (1, .int ar1), (2, .int ar2)]) rfl (t_sc rfl (t_sc rfl (t_sc rfl (t_sc rfl (t_sc rfl (t_sc rfl t_sn)))))) ?_
                      exact ih23 _ (by omega) gi37 gl37 gr37 (z42) (z41) hI hX p21 (Int.le_trans (by decide : (0:Int) ≤ 1) l42) u42 ((hC37.1 0 7 rfl).2.2.trans ((hC33.1 0 7 rfl).2.2.trans c23_0)) rfl
                    · have r43 : w37.toInt ≠ 0 := fun e => h38 (Int32.toInt_inj.mp (e.trans (by decide : (0:Int) = (0 : Int32).toInt)))
                      refine ev_incR f_X11_odds (nx := 74) (c := 1) (l := 1) (u := 20) rfl rfl (by decide) (by decide) l23_5 u30 rfl rfl (by decide) (by decide) rfl (fun z44 e44 l44 u44 => ?_)
                      refine ev_jmp f_X11_odds (nx := 23) rfl rfl rfl ?_
                      refine ev_sub (lo := [(5, .int z44), (4, .int y23_4), (3, .int 0), (0, .ref 0), (1, .int ar1), (2, .int ar2)]) rfl (t_sc rfl (t_sc rfl (t_sc rfl (t_sc rfl (t_sc rfl (t_sc rfl t_sn)))))) ?_
                      exact ih23 _ (by omega) gi37 gl37 gr37 (z44) (y23_4) hI hX p21 (Int.le_trans (by decide : (0:Int) ≤ 1) l44) u44 ((hC37.1 0 7 rfl).2.2.trans ((hC33.1 0 7 rfl).2.2.trans c23_0)) rfl
                  · have r45 : (gi33 45 12).toInt ≠ 0 := fun e => h34 (Int32.toInt_inj.mp (e.trans (by decide : (0:Int) = (0 : Int32).toInt)))
                    refine ev_incR f_X11_odds (nx := 74) (c := 1) (l := 1) (u := 20) rfl rfl (by decide) (by decide) l23_5 u30 rfl rfl (by decide) (by decide) rfl (fun z46 e46 l46 u46 => ?_)
                    refine ev_jmp f_X11_odds (nx := 23) rfl rfl rfl ?_
                    refine ev_sub (lo := [(5, .int z46), (4, .int y23_4), (3, .int 0), (0, .ref 0), (1, .int ar1), (2, .int ar2)]) rfl (t_sc rfl (t_sc rfl (t_sc rfl (t_sc rfl (t_sc rfl (t_sc rfl t_sn)))))) ?_
                    exact ih23 _ (by omega) gi33 gl33 gr33 (z46) (y23_4) hI hX p21 (Int.le_trans (by decide : (0:Int) ≤ 1) l46) u46 ((hC33.1 0 7 rfl).2.2.trans c23_0) rfl
              refine ev_sub (lo := [(5, .int 0), (4, .int 0), (3, .int 0), (0, .ref 0), (1, .int ar1), (2, .int ar2)]) rfl (t_sc rfl (t_sc rfl (t_sc rfl (t_sc rfl (t_sc rfl (t_sc rfl t_sn)))))) ?_
              exact L23 _ gi gl gr (0) (0) hI hX p21 (by decide : (0:Int) ≤ (0:Int32).toInt) (Int.le_trans (by decide : (0:Int32).toInt ≤ (0:Int)) (by decide : (0:Int) ≤ 20)) e21 rfl
          · have l47 : 10000 ≤ z18.toInt := t_ltl (t_nle h19) (by decide : (9999:Int) ≤ (9999:Int32).toInt) rfl
            refine ev_ic f_X11_wrongSeeds (nx := 34) (v := 1) rfl (by decide) rfl ?_
            refine ev_retK1 f_X11_wrongSeeds rfl rfl rfl ?_
            refine ev_loc f_X11_odds (nx := 7) (lo' := [(3, .int 1), (0, .ref 0), (1, .int ar1), (2, .int ar2)]) rfl rfl rfl rfl ?_
            refine ev_loc f_X11_odds (nx := 8) rfl rfl rfl rfl ?_
            refine ev_f f_X11_odds (t1 := 17) (t2 := 11) rfl rfl rfl (by decide) ?_
            refine ev_loc f_X11_odds (nx := 12) rfl rfl rfl rfl ?_
            refine ev_loc f_X11_odds (nx := 13) rfl rfl rfl rfl ?_
            refine ev_inV2 f_X11_odds (nx := 16) (lo2 := [(0, .ref 0), (1, .int 1)]) rfl rfl rfl rfl f_X11_deny (hI.wf.s rfl) rfl rfl rfl rfl rfl ?_
            refine ev_loc f_X11_deny (nx := 1) rfl rfl rfl rfl ?_
            refine ev_loc f_X11_deny (nx := 2) rfl rfl rfl rfl ?_
            refine ev_putIT f_X11_deny (nx := 5) rfl (hI.wf.s rfl) rfl rfl rfl (hI.put0 (hI.wf.s rfl) rfl rfl) (hX.upI rfl) (fun g48 e48 hI hX => ?_)
            refine ev_ic f_X11_deny (nx := 6) (v := 0) rfl (by decide) rfl ?_
            refine ev_retK1 f_X11_deny rfl rfl rfl ?_
            exact ev_ret f_X11_odds rfl rfl rfl ⟨_, _, _, rfl, hI, hX, ⟨_, rfl, (by decide : (0:Int) ≤ (0:Int32).toInt), (Int.le_trans (by decide : (0:Int32).toInt ≤ (0:Int)) (by decide : (0:Int) ≤ 1)), (show ((0 ≤ ar1.toInt ∧ ar1.toInt ≤ 9999 ∧ 1 ≤ ar2.toInt ∧ ar2.toInt ≤ 20 ∧ ar1.toInt + ar2.toInt ≤ 10000) ∧ gr 0 7 ≠ .null → (0 : Int) = 1) ∧ (¬ ((0 ≤ ar1.toInt ∧ ar1.toInt ≤ 9999 ∧ 1 ≤ ar2.toInt ∧ ar2.toInt ≤ 20 ∧ ar1.toInt + ar2.toInt ≤ 10000) ∧ gr 0 7 ≠ .null) → (0 : Int) = 0) from ⟨fun h => absurd h.1 (by omega), fun _ => rfl⟩)⟩⟩
noncomputable def wl_e_odds : List (Nat × Nat) := [(69, 2), (69, 3), (69, 4), (69, 44), (69, 45), (69, 58), (69, 59), (69, 60), (69, 61), (69, 62), (69, 63), (69, 64), (69, 65), (69, 66), (69, 67), (69, 68), (69, 69), (69, 70), (89, 10005), (89, 610011), (90, 9999), (91, 9999), (99, 9999), (100, 9999)]
noncomputable def Q_e_odds (gi : Nat → Nat → Int32) (gl : Nat → Nat → Int64) (gr : Nat → Nat → Value) (ar1 : Int32) (ar2 : Int32) : Int32 → (Nat → Nat → Int32) → (Nat → Nat → Int64) → (Nat → Nat → Value) → Prop := fun (v : Int32) (gi2 : Nat → Nat → Int32) (gl2 : Nat → Nat → Int64) (gr2 : Nat → Nat → Value) => ((0 ≤ ar1.toInt ∧ ar1.toInt ≤ 9999 ∧ 1 ≤ ar2.toInt ∧ ar2.toInt ≤ 20 ∧ ar1.toInt + ar2.toInt ≤ 10000) ∧ (gi 70 8).toInt ≠ 0 → v.toInt = 1) ∧ (¬ ((0 ≤ ar1.toInt ∧ ar1.toInt ≤ 9999 ∧ 1 ≤ ar2.toInt ∧ ar2.toInt ≤ 20 ∧ ar1.toInt + ar2.toInt ≤ 10000) ∧ (gi 70 8).toInt ≠ 0) → v.toInt = 0)
theorem c_e_odds {X : x_Ext} {d : Nat} {sh : List (Nat ⊕ (Nat × Nat))} {gi : Nat → Nat → Int32} {gl : Nat → Nat → Int64} {gr : Nat → Nat → Value} (hI : t_I sh gi gr) (ar1 : Int32) (ar2 : Int32) (e_p0 : t_rpn (gi 70) 0) : x_Me X (d + 7) n_X12_odds [.ref 69, .int ar1, .int ar2] (sh, gi, gl, gr) (t_PI wl_e_odds sh gi gl gr 0 1 (Q_e_odds gi gl gr ar1 ar2)) := by
  have hX : t_X wl_e_odds sh gi gl gr gi gl gr := t_X.rf
  refine me_i f_X12_odds (hI.wf.s rfl) rfl rfl rfl ?_
  obtain ⟨l1, u1⟩ := hI.ab (by decide +kernel : t_abr 70 8 8 0 1 = true) (Nat.le_refl _) (Nat.le_refl _)
  refine ev_loc f_X12_odds (nx := 1) rfl rfl rfl rfl ?_
  refine ev_loc f_X12_odds (nx := 2) rfl rfl rfl rfl ?_
  refine ev_loc f_X12_odds (nx := 3) rfl rfl rfl rfl ?_
  refine ev_inV3 f_X12_odds (nx := 6) (lo2 := [(0, .ref 69), (1, .int ar1), (2, .int ar2)]) rfl rfl rfl rfl f_X12_areSeeds (hI.wf.s rfl) rfl rfl rfl rfl rfl ?_
  refine ev_loc f_X12_areSeeds (nx := 1) rfl rfl rfl rfl ?_
  refine ev_anyLE f_X12_areSeeds (nx := 2) rfl rfl rfl rfl (fun z2 e2 => ?_)
  have i2 : z2.toInt = ar1.toInt := by rw [e2]; exact Int32.toInt_toInt64 _
  refine ev_lc f_X12_areSeeds (nx := 3) (v := 0) rfl (by decide) rfl ?_
  refine ev_ldL f_X12_areSeeds (nx := 6) (v := 9999) rfl (by decide) rfl ?_
  refine ev_inS3 f_X12_areSeeds (nx := 9) (lo2 := [(0, .long z2), (2, .long 0), (4, .long 9999)]) rfl rfl rfl rfl f_X12_isFrom rfl rfl rfl rfl ?_
  refine ev_loc f_X12_isFrom (nx := 1) rfl rfl rfl rfl ?_
  refine ev_loc f_X12_isFrom (nx := 2) rfl rfl rfl rfl ?_
  refine ev_anyIE f_X12_isFrom (nx := 3) rfl rfl rfl rfl (fun z3 e3 => ?_)
  refine ev_if f_X12_isFrom (t1 := 17) (t2 := 6) rfl rfl rfl (fun h4 => ?_) (fun h4 => ?_)
  · have u5 : ar1.toInt ≤ ((-1):Int) := Int.le_sub_one_of_lt ((lgc_lt (by decide : (0 : Int64).toInt = 0)).mp (by have hh := h4; rw [e3, e2] at hh; exact hh))
    have u6 : z3.toInt ≤ (-1) := t_ltu h4 (by decide : (0:Int32).toInt ≤ (0:Int)) rfl
    refine ev_ic f_X12_isFrom (nx := 18) (v := 0) rfl (by decide) rfl ?_
    refine ev_retK1 f_X12_isFrom rfl rfl rfl ?_
    refine ev_t f_X12_areSeeds (t1 := 39) (t2 := 12) rfl rfl rfl (by decide) ?_
    refine ev_ic f_X12_areSeeds (nx := 40) (v := 0) rfl (by decide) rfl ?_
    refine ev_retK1 f_X12_areSeeds rfl rfl rfl ?_
    refine ev_t f_X12_odds (t1 := 9) (t2 := 15) rfl rfl rfl (by decide) ?_
    refine ev_loc f_X12_odds (nx := 10) rfl rfl rfl rfl ?_
    refine ev_ic f_X12_odds (nx := 11) (v := 1) rfl (by decide) rfl ?_
    refine ev_inV2 f_X12_odds (nx := 14) (lo2 := [(0, .ref 69), (1, .int 1)]) rfl rfl rfl rfl f_X12_is (hI.wf.s rfl) rfl rfl rfl rfl rfl ?_
    refine ev_loc f_X12_is (nx := 1) rfl rfl rfl rfl ?_
    refine ev_loc f_X12_is (nx := 2) rfl rfl rfl rfl ?_
    refine ev_putIT f_X12_is (nx := 5) rfl (hI.wf.s rfl) rfl rfl rfl (hI.put0 (hI.wf.s rfl) rfl rfl) (hX.upI rfl) (fun g7 e7 hI hX => ?_)
    refine ev_loc f_X12_is (nx := 6) rfl rfl rfl rfl ?_
    refine ev_f f_X12_is (t1 := 9) (t2 := 13) rfl rfl rfl (by decide) ?_
    refine ev_ic f_X12_is (nx := 14) (v := 0) rfl (by decide) rfl ?_
    refine ev_retK1 f_X12_is rfl rfl rfl ?_
    exact ev_ret f_X12_odds rfl rfl rfl ⟨_, _, _, rfl, hI, hX, ⟨_, rfl, (by decide : (0:Int) ≤ (0:Int32).toInt), (Int.le_trans (by decide : (0:Int32).toInt ≤ (0:Int)) (by decide : (0:Int) ≤ 1)), (show ((0 ≤ ar1.toInt ∧ ar1.toInt ≤ 9999 ∧ 1 ≤ ar2.toInt ∧ ar2.toInt ≤ 20 ∧ ar1.toInt + ar2.toInt ≤ 10000) ∧ (gi 70 8).toInt ≠ 0 → (0 : Int) = 1) ∧ (¬ ((0 ≤ ar1.toInt ∧ ar1.toInt ≤ 9999 ∧ 1 ≤ ar2.toInt ∧ ar2.toInt ≤ 20 ∧ ar1.toInt + ar2.toInt ≤ 10000) ∧ (gi 70 8).toInt ≠ 0) → (0 : Int) = 0) from ⟨fun _ => (by omega), fun _ => (by omega)⟩)⟩⟩
  · have l8 : (0:Int) ≤ ar1.toInt := (lgc_ge (by decide : (0 : Int64).toInt = 0)).mp (by have hh := (t_nlt h4); rw [e3, e2] at hh; exact hh)
    have l9 : 0 ≤ z3.toInt := t_lel (t_nlt h4) (by decide : (0:Int) ≤ (0:Int32).toInt)
    refine ev_loc f_X12_isFrom (nx := 7) rfl rfl rfl rfl ?_
    refine ev_loc f_X12_isFrom (nx := 9) rfl rfl rfl rfl ?_
    refine ev_anyIE f_X12_isFrom (nx := 10) rfl rfl rfl rfl (fun z10 e10 => ?_)
    refine ev_if f_X12_isFrom (t1 := 17) (t2 := 13) rfl rfl rfl (fun h11 => ?_) (fun h11 => ?_)
    · have l12 : (10000:Int) ≤ ar1.toInt := Int.add_one_le_of_lt ((lgc_gt (by decide : (9999 : Int64).toInt = 9999)).mp (by have hh := h11; rw [e10, e2] at hh; exact hh))
      have l13 : 1 ≤ z10.toInt := t_ltl h11 (by decide : (0:Int) ≤ (0:Int32).toInt) rfl
      refine ev_ic f_X12_isFrom (nx := 18) (v := 0) rfl (by decide) rfl ?_
      refine ev_retK1 f_X12_isFrom rfl rfl rfl ?_
      refine ev_t f_X12_areSeeds (t1 := 39) (t2 := 12) rfl rfl rfl (by decide) ?_
      refine ev_ic f_X12_areSeeds (nx := 40) (v := 0) rfl (by decide) rfl ?_
      refine ev_retK1 f_X12_areSeeds rfl rfl rfl ?_
      refine ev_t f_X12_odds (t1 := 9) (t2 := 15) rfl rfl rfl (by decide) ?_
      refine ev_loc f_X12_odds (nx := 10) rfl rfl rfl rfl ?_
      refine ev_ic f_X12_odds (nx := 11) (v := 1) rfl (by decide) rfl ?_
      refine ev_inV2 f_X12_odds (nx := 14) (lo2 := [(0, .ref 69), (1, .int 1)]) rfl rfl rfl rfl f_X12_is (hI.wf.s rfl) rfl rfl rfl rfl rfl ?_
      refine ev_loc f_X12_is (nx := 1) rfl rfl rfl rfl ?_
      refine ev_loc f_X12_is (nx := 2) rfl rfl rfl rfl ?_
      refine ev_putIT f_X12_is (nx := 5) rfl (hI.wf.s rfl) rfl rfl rfl (hI.put0 (hI.wf.s rfl) rfl rfl) (hX.upI rfl) (fun g14 e14 hI hX => ?_)
      refine ev_loc f_X12_is (nx := 6) rfl rfl rfl rfl ?_
      refine ev_f f_X12_is (t1 := 9) (t2 := 13) rfl rfl rfl (by decide) ?_
      refine ev_ic f_X12_is (nx := 14) (v := 0) rfl (by decide) rfl ?_
      refine ev_retK1 f_X12_is rfl rfl rfl ?_
      exact ev_ret f_X12_odds rfl rfl rfl ⟨_, _, _, rfl, hI, hX, ⟨_, rfl, (by decide : (0:Int) ≤ (0:Int32).toInt), (Int.le_trans (by decide : (0:Int32).toInt ≤ (0:Int)) (by decide : (0:Int) ≤ 1)), (show ((0 ≤ ar1.toInt ∧ ar1.toInt ≤ 9999 ∧ 1 ≤ ar2.toInt ∧ ar2.toInt ≤ 20 ∧ ar1.toInt + ar2.toInt ≤ 10000) ∧ (gi 70 8).toInt ≠ 0 → (0 : Int) = 1) ∧ (¬ ((0 ≤ ar1.toInt ∧ ar1.toInt ≤ 9999 ∧ 1 ≤ ar2.toInt ∧ ar2.toInt ≤ 20 ∧ ar1.toInt + ar2.toInt ≤ 10000) ∧ (gi 70 8).toInt ≠ 0) → (0 : Int) = 0) from ⟨fun _ => (by omega), fun _ => (by omega)⟩)⟩⟩
    · have u15 : ar1.toInt ≤ (9999:Int) := (lgc_le (by decide : (9999 : Int64).toInt = 9999)).mp (by have hh := (t_nlt h11); rw [e10, e2] at hh; exact hh)
      have u16 : z10.toInt ≤ 0 := t_leu (t_nlt h11) (by decide : (0:Int32).toInt ≤ (0:Int))
      refine ev_ic f_X12_isFrom (nx := 14) (v := 1) rfl (by decide) rfl ?_
      refine ev_jmp f_X12_isFrom (nx := 18) rfl rfl rfl ?_
      refine ev_retK1 f_X12_isFrom rfl rfl rfl ?_
      refine ev_f f_X12_areSeeds (t1 := 39) (t2 := 12) rfl rfl rfl (by decide) ?_
      refine ev_loc f_X12_areSeeds (nx := 13) rfl rfl rfl rfl ?_
      refine ev_anyLE f_X12_areSeeds (nx := 14) rfl rfl rfl rfl (fun z17 e17 => ?_)
      have i17 : z17.toInt = ar2.toInt := by rw [e17]; exact Int32.toInt_toInt64 _
      refine ev_lc f_X12_areSeeds (nx := 15) (v := 1) rfl (by decide) rfl ?_
      refine ev_ldL f_X12_areSeeds (nx := 18) (v := 20) rfl (by decide) rfl ?_
      refine ev_inS3 f_X12_areSeeds (nx := 21) (lo2 := [(0, .long z17), (2, .long 1), (4, .long 20)]) rfl rfl rfl rfl f_X12_isFrom rfl rfl rfl rfl ?_
      refine ev_loc f_X12_isFrom (nx := 1) rfl rfl rfl rfl ?_
      refine ev_loc f_X12_isFrom (nx := 2) rfl rfl rfl rfl ?_
      refine ev_anyIE f_X12_isFrom (nx := 3) rfl rfl rfl rfl (fun z18 e18 => ?_)
      refine ev_if f_X12_isFrom (t1 := 17) (t2 := 6) rfl rfl rfl (fun h19 => ?_) (fun h19 => ?_)
      · have u20 : ar2.toInt ≤ (0:Int) := Int.le_sub_one_of_lt ((lgc_lt (by decide : (1 : Int64).toInt = 1)).mp (by have hh := h19; rw [e18, e17] at hh; exact hh))
        have u21 : z18.toInt ≤ (-1) := t_ltu h19 (by decide : (0:Int32).toInt ≤ (0:Int)) rfl
        refine ev_ic f_X12_isFrom (nx := 18) (v := 0) rfl (by decide) rfl ?_
        refine ev_retK1 f_X12_isFrom rfl rfl rfl ?_
        refine ev_t f_X12_areSeeds (t1 := 39) (t2 := 24) rfl rfl rfl (by decide) ?_
        refine ev_ic f_X12_areSeeds (nx := 40) (v := 0) rfl (by decide) rfl ?_
        refine ev_retK1 f_X12_areSeeds rfl rfl rfl ?_
        refine ev_t f_X12_odds (t1 := 9) (t2 := 15) rfl rfl rfl (by decide) ?_
        refine ev_loc f_X12_odds (nx := 10) rfl rfl rfl rfl ?_
        refine ev_ic f_X12_odds (nx := 11) (v := 1) rfl (by decide) rfl ?_
        refine ev_inV2 f_X12_odds (nx := 14) (lo2 := [(0, .ref 69), (1, .int 1)]) rfl rfl rfl rfl f_X12_is (hI.wf.s rfl) rfl rfl rfl rfl rfl ?_
        refine ev_loc f_X12_is (nx := 1) rfl rfl rfl rfl ?_
        refine ev_loc f_X12_is (nx := 2) rfl rfl rfl rfl ?_
        refine ev_putIT f_X12_is (nx := 5) rfl (hI.wf.s rfl) rfl rfl rfl (hI.put0 (hI.wf.s rfl) rfl rfl) (hX.upI rfl) (fun g22 e22 hI hX => ?_)
        refine ev_loc f_X12_is (nx := 6) rfl rfl rfl rfl ?_
        refine ev_f f_X12_is (t1 := 9) (t2 := 13) rfl rfl rfl (by decide) ?_
        refine ev_ic f_X12_is (nx := 14) (v := 0) rfl (by decide) rfl ?_
        refine ev_retK1 f_X12_is rfl rfl rfl ?_
        exact ev_ret f_X12_odds rfl rfl rfl ⟨_, _, _, rfl, hI, hX, ⟨_, rfl, (by decide : (0:Int) ≤ (0:Int32).toInt), (Int.le_trans (by decide : (0:Int32).toInt ≤ (0:Int)) (by decide : (0:Int) ≤ 1)), (show ((0 ≤ ar1.toInt ∧ ar1.toInt ≤ 9999 ∧ 1 ≤ ar2.toInt ∧ ar2.toInt ≤ 20 ∧ ar1.toInt + ar2.toInt ≤ 10000) ∧ (gi 70 8).toInt ≠ 0 → (0 : Int) = 1) ∧ (¬ ((0 ≤ ar1.toInt ∧ ar1.toInt ≤ 9999 ∧ 1 ≤ ar2.toInt ∧ ar2.toInt ≤ 20 ∧ ar1.toInt + ar2.toInt ≤ 10000) ∧ (gi 70 8).toInt ≠ 0) → (0 : Int) = 0) from ⟨fun _ => (by omega), fun _ => (by omega)⟩)⟩⟩
      · have l23 : (1:Int) ≤ ar2.toInt := (lgc_ge (by decide : (1 : Int64).toInt = 1)).mp (by have hh := (t_nlt h19); rw [e18, e17] at hh; exact hh)
        have l24 : 0 ≤ z18.toInt := t_lel (t_nlt h19) (by decide : (0:Int) ≤ (0:Int32).toInt)
        refine ev_loc f_X12_isFrom (nx := 7) rfl rfl rfl rfl ?_
        refine ev_loc f_X12_isFrom (nx := 9) rfl rfl rfl rfl ?_
        refine ev_anyIE f_X12_isFrom (nx := 10) rfl rfl rfl rfl (fun z25 e25 => ?_)
        refine ev_if f_X12_isFrom (t1 := 17) (t2 := 13) rfl rfl rfl (fun h26 => ?_) (fun h26 => ?_)
        · have l27 : (21:Int) ≤ ar2.toInt := Int.add_one_le_of_lt ((lgc_gt (by decide : (20 : Int64).toInt = 20)).mp (by have hh := h26; rw [e25, e17] at hh; exact hh))
          have l28 : 1 ≤ z25.toInt := t_ltl h26 (by decide : (0:Int) ≤ (0:Int32).toInt) rfl
          refine ev_ic f_X12_isFrom (nx := 18) (v := 0) rfl (by decide) rfl ?_
          refine ev_retK1 f_X12_isFrom rfl rfl rfl ?_
          refine ev_t f_X12_areSeeds (t1 := 39) (t2 := 24) rfl rfl rfl (by decide) ?_
          refine ev_ic f_X12_areSeeds (nx := 40) (v := 0) rfl (by decide) rfl ?_
          refine ev_retK1 f_X12_areSeeds rfl rfl rfl ?_
          refine ev_t f_X12_odds (t1 := 9) (t2 := 15) rfl rfl rfl (by decide) ?_
          refine ev_loc f_X12_odds (nx := 10) rfl rfl rfl rfl ?_
          refine ev_ic f_X12_odds (nx := 11) (v := 1) rfl (by decide) rfl ?_
          refine ev_inV2 f_X12_odds (nx := 14) (lo2 := [(0, .ref 69), (1, .int 1)]) rfl rfl rfl rfl f_X12_is (hI.wf.s rfl) rfl rfl rfl rfl rfl ?_
          refine ev_loc f_X12_is (nx := 1) rfl rfl rfl rfl ?_
          refine ev_loc f_X12_is (nx := 2) rfl rfl rfl rfl ?_
          refine ev_putIT f_X12_is (nx := 5) rfl (hI.wf.s rfl) rfl rfl rfl (hI.put0 (hI.wf.s rfl) rfl rfl) (hX.upI rfl) (fun g29 e29 hI hX => ?_)
          refine ev_loc f_X12_is (nx := 6) rfl rfl rfl rfl ?_
          refine ev_f f_X12_is (t1 := 9) (t2 := 13) rfl rfl rfl (by decide) ?_
          refine ev_ic f_X12_is (nx := 14) (v := 0) rfl (by decide) rfl ?_
          refine ev_retK1 f_X12_is rfl rfl rfl ?_
          exact ev_ret f_X12_odds rfl rfl rfl ⟨_, _, _, rfl, hI, hX, ⟨_, rfl, (by decide : (0:Int) ≤ (0:Int32).toInt), (Int.le_trans (by decide : (0:Int32).toInt ≤ (0:Int)) (by decide : (0:Int) ≤ 1)), (show ((0 ≤ ar1.toInt ∧ ar1.toInt ≤ 9999 ∧ 1 ≤ ar2.toInt ∧ ar2.toInt ≤ 20 ∧ ar1.toInt + ar2.toInt ≤ 10000) ∧ (gi 70 8).toInt ≠ 0 → (0 : Int) = 1) ∧ (¬ ((0 ≤ ar1.toInt ∧ ar1.toInt ≤ 9999 ∧ 1 ≤ ar2.toInt ∧ ar2.toInt ≤ 20 ∧ ar1.toInt + ar2.toInt ≤ 10000) ∧ (gi 70 8).toInt ≠ 0) → (0 : Int) = 0) from ⟨fun _ => (by omega), fun _ => (by omega)⟩)⟩⟩
        · have u30 : ar2.toInt ≤ (20:Int) := (lgc_le (by decide : (20 : Int64).toInt = 20)).mp (by have hh := (t_nlt h26); rw [e25, e17] at hh; exact hh)
          have u31 : z25.toInt ≤ 0 := t_leu (t_nlt h26) (by decide : (0:Int32).toInt ≤ (0:Int))
          refine ev_ic f_X12_isFrom (nx := 14) (v := 1) rfl (by decide) rfl ?_
          refine ev_jmp f_X12_isFrom (nx := 18) rfl rfl rfl ?_
          refine ev_retK1 f_X12_isFrom rfl rfl rfl ?_
          refine ev_f f_X12_areSeeds (t1 := 39) (t2 := 24) rfl rfl rfl (by decide) ?_
          refine ev_loc f_X12_areSeeds (nx := 25) rfl rfl rfl rfl ?_
          refine ev_loc f_X12_areSeeds (nx := 26) rfl rfl rfl rfl ?_
          refine ev_addR f_X12_areSeeds (nx := 27) (l := 1) (u := 10019) rfl l8 u15 l23 u30 rfl rfl (by decide) (by decide) rfl (fun z32 e32 l32 u32 => ?_)
          refine ev_ic f_X12_areSeeds (nx := 28) (v := 1) rfl (by decide) rfl ?_
          refine ev_subC f_X12_areSeeds (nx := 29) (c := 1) (l := 0) (u := 10018) rfl (by decide) l32 u32 rfl rfl (by decide) (by decide) rfl (fun z33 e33 l33 u33 => ?_)
          refine ev_sp f_X12_areSeeds (nx := 32) (v := 9999) rfl (by decide) rfl ?_
          refine ev_if f_X12_areSeeds (t1 := 39) (t2 := 35) rfl rfl rfl (fun h34 => ?_) (fun h34 => ?_)
          · have l35 : 10000 ≤ z33.toInt := t_ltl h34 (by decide : (9999:Int) ≤ (9999:Int32).toInt) rfl
            refine ev_ic f_X12_areSeeds (nx := 40) (v := 0) rfl (by decide) rfl ?_
            refine ev_retK1 f_X12_areSeeds rfl rfl rfl ?_
            refine ev_t f_X12_odds (t1 := 9) (t2 := 15) rfl rfl rfl (by decide) ?_
            refine ev_loc f_X12_odds (nx := 10) rfl rfl rfl rfl ?_
            refine ev_ic f_X12_odds (nx := 11) (v := 1) rfl (by decide) rfl ?_
            refine ev_inV2 f_X12_odds (nx := 14) (lo2 := [(0, .ref 69), (1, .int 1)]) rfl rfl rfl rfl f_X12_is (hI.wf.s rfl) rfl rfl rfl rfl rfl ?_
            refine ev_loc f_X12_is (nx := 1) rfl rfl rfl rfl ?_
            refine ev_loc f_X12_is (nx := 2) rfl rfl rfl rfl ?_
            refine ev_putIT f_X12_is (nx := 5) rfl (hI.wf.s rfl) rfl rfl rfl (hI.put0 (hI.wf.s rfl) rfl rfl) (hX.upI rfl) (fun g36 e36 hI hX => ?_)
            refine ev_loc f_X12_is (nx := 6) rfl rfl rfl rfl ?_
            refine ev_f f_X12_is (t1 := 9) (t2 := 13) rfl rfl rfl (by decide) ?_
            refine ev_ic f_X12_is (nx := 14) (v := 0) rfl (by decide) rfl ?_
            refine ev_retK1 f_X12_is rfl rfl rfl ?_
            exact ev_ret f_X12_odds rfl rfl rfl ⟨_, _, _, rfl, hI, hX, ⟨_, rfl, (by decide : (0:Int) ≤ (0:Int32).toInt), (Int.le_trans (by decide : (0:Int32).toInt ≤ (0:Int)) (by decide : (0:Int) ≤ 1)), (show ((0 ≤ ar1.toInt ∧ ar1.toInt ≤ 9999 ∧ 1 ≤ ar2.toInt ∧ ar2.toInt ≤ 20 ∧ ar1.toInt + ar2.toInt ≤ 10000) ∧ (gi 70 8).toInt ≠ 0 → (0 : Int) = 1) ∧ (¬ ((0 ≤ ar1.toInt ∧ ar1.toInt ≤ 9999 ∧ 1 ≤ ar2.toInt ∧ ar2.toInt ≤ 20 ∧ ar1.toInt + ar2.toInt ≤ 10000) ∧ (gi 70 8).toInt ≠ 0) → (0 : Int) = 0) from ⟨fun _ => (by omega), fun _ => (by omega)⟩)⟩⟩
          · have u37 : z33.toInt ≤ 9999 := t_leu (t_nlt h34) (by decide : (9999:Int32).toInt ≤ (9999:Int))
            refine ev_ic f_X12_areSeeds (nx := 36) (v := 1) rfl (by decide) rfl ?_
            refine ev_jmp f_X12_areSeeds (nx := 40) rfl rfl rfl ?_
            refine ev_retK1 f_X12_areSeeds rfl rfl rfl ?_
            refine ev_f f_X12_odds (t1 := 9) (t2 := 15) rfl rfl rfl (by decide) ?_
            refine ev_loc f_X12_odds (nx := 16) rfl rfl rfl rfl ?_
            refine ev_getR f_X12_odds (nx := 19) rfl (hI.wf.s rfl) rfl rfl (hI.wf.r rfl) rfl rfl ?_
            refine ev_bp f_X12_odds (nx := 21) (v := 8) rfl (by decide) rfl ?_
            refine ev_ialdv f_X12_odds (nx := 22) (w := (gi 70 8)) rfl (hI.wf.s rfl) (by decide) (rfl : (8 : Int32).toNatClampNeg = 8) (by decide) rfl rfl ?_
            refine ev_if f_X12_odds (t1 := 25) (t2 := 32) rfl rfl rfl (fun h39 => ?_) (fun h39 => ?_)
            · have u40 : (gi 70 8).toInt ≤ 0 := t_equ h39 (by decide : (0:Int32).toInt ≤ (0:Int))
              refine ev_loc f_X12_odds (nx := 26) rfl rfl rfl rfl ?_
              refine ev_bp f_X12_odds (nx := 28) (v := 6) rfl (by decide) rfl ?_
              refine ev_inV2 f_X12_odds (nx := 31) (lo2 := [(0, .ref 69), (1, .int 6)]) rfl rfl rfl rfl f_X12_is (hI.wf.s rfl) rfl rfl rfl rfl rfl ?_
              refine ev_loc f_X12_is (nx := 1) rfl rfl rfl rfl ?_
              refine ev_loc f_X12_is (nx := 2) rfl rfl rfl rfl ?_
              refine ev_putIT f_X12_is (nx := 5) rfl (hI.wf.s rfl) rfl rfl rfl (hI.put0 (hI.wf.s rfl) rfl rfl) (hX.upI rfl) (fun g41 e41 hI hX => ?_)
              refine ev_loc f_X12_is (nx := 6) rfl rfl rfl rfl ?_
              refine ev_f f_X12_is (t1 := 9) (t2 := 13) rfl rfl rfl (by decide) ?_
              refine ev_ic f_X12_is (nx := 14) (v := 0) rfl (by decide) rfl ?_
              refine ev_retK1 f_X12_is rfl rfl rfl ?_
              exact ev_ret f_X12_odds rfl rfl rfl ⟨_, _, _, rfl, hI, hX, ⟨_, rfl, (by decide : (0:Int) ≤ (0:Int32).toInt), (Int.le_trans (by decide : (0:Int32).toInt ≤ (0:Int)) (by decide : (0:Int) ≤ 1)), (show ((0 ≤ ar1.toInt ∧ ar1.toInt ≤ 9999 ∧ 1 ≤ ar2.toInt ∧ ar2.toInt ≤ 20 ∧ ar1.toInt + ar2.toInt ≤ 10000) ∧ (gi 70 8).toInt ≠ 0 → (0 : Int) = 1) ∧ (¬ ((0 ≤ ar1.toInt ∧ ar1.toInt ≤ 9999 ∧ 1 ≤ ar2.toInt ∧ ar2.toInt ≤ 20 ∧ ar1.toInt + ar2.toInt ≤ 10000) ∧ (gi 70 8).toInt ≠ 0) → (0 : Int) = 0) from ⟨fun _ => (by omega), fun _ => (by omega)⟩)⟩⟩
            · have r42 : (gi 70 8).toInt ≠ 0 := fun e => h39 (Int32.toInt_inj.mp (e.trans (by decide : (0:Int) = (0 : Int32).toInt)))
              have l43 : 1 ≤ (gi 70 8).toInt := t_nel h39 l1 rfl rfl
              refine ev_ic f_X12_odds (nx := 33) (v := 0) rfl (by decide) rfl ?_
              refine ev_loc f_X12_odds (nx := 34) (lo' := [(3, .int 0), (0, .ref 69), (1, .int ar1), (2, .int ar2)]) rfl rfl rfl rfl ?_
              refine ev_ic f_X12_odds (nx := 35) (v := 0) rfl (by decide) rfl ?_
              refine ev_loc f_X12_odds (nx := 37) (lo' := [(4, .int 0), (3, .int 0), (0, .ref 69), (1, .int ar1), (2, .int ar2)]) rfl rfl rfl rfl ?_
              have L44 : ∀ (m44 : Nat) (gi44 : Nat → Nat → Int32) (gl44 : Nat → Nat → Int64) (gr44 : Nat → Nat → Value) (y44_4 : Int32) (y44_3 : Int32), t_I sh gi44 gr44 → t_X wl_e_odds sh gi gl gr gi44 gl44 gr44 → 0 ≤ y44_4.toInt → y44_4.toInt ≤ 20 → 0 ≤ y44_3.toInt → y44_3.toInt ≤ 20 → gi44 70 8 = (gi 70 8) → t_rpn (gi44 70) 0 → 0 ≤ y44_3.toInt → y44_3.toInt ≤ y44_4.toInt → (20 - y44_4.toInt).toNat = m44 → x_Ev X (d + 7) n_X12_odds 37 [(4, .int y44_4), (3, .int y44_3), (0, .ref 69), (1, .int ar1), (2, .int ar2)] [] (sh, gi44, gl44, gr44) (t_PI wl_e_odds sh gi gl gr 0 1 (Q_e_odds gi gl gr ar1 ar2)) := by
                intro m44
                induction m44 using Nat.strongRecOn with
                | _ m44 ih44 =>
                intro gi44 gl44 gr44 y44_4 y44_3 hI hX l44_4 u44_4 l44_3 u44_3 c44_0 j44_0 j44_1 j44_2 hm44
                refine ev_loc f_X12_odds (nx := 39) rfl rfl rfl rfl ?_
                refine ev_loc f_X12_odds (nx := 40) rfl rfl rfl rfl ?_
                refine ev_if f_X12_odds (t1 := 79) (t2 := 43) rfl rfl rfl (fun h45 => ?_) (fun h45 => ?_)
                · have r46 : ar2.toInt ≤ y44_4.toInt := Int32.le_iff_toInt_le.mp h45
                  have l47 : 1 ≤ y44_4.toInt := t_lel h45 l23
                  refine ev_loc f_X12_odds (nx := 80) rfl rfl rfl rfl ?_
                  refine ev_loc f_X12_odds (nx := 81) rfl rfl rfl rfl ?_
                  refine ev_anyLE f_X12_odds (nx := 82) rfl rfl rfl rfl (fun z48 e48 => ?_)
                  have i48 : z48.toInt = y44_3.toInt := by rw [e48]; exact Int32.toInt_toInt64 _
                  refine ev_loc f_X12_odds (nx := 83) rfl rfl rfl rfl ?_
                  refine ev_anyLE f_X12_odds (nx := 84) rfl rfl rfl rfl (fun z49 e49 => ?_)
                  have i49 : z49.toInt = ar2.toInt := by rw [e49]; exact Int32.toInt_toInt64 _
                  refine ev_cI f_X12_odds (nx := 87) (r := []) rfl rfl rfl rfl rfl rfl rfl (c_m_tellsBy hI (z48) (z49) (by omega) (by omega)) rfl hX rfl (fun w50 gi50 gl50 gr50 l50 u50 hI hX hC50 => ?_)
                  exact ev_retZ f_X12_odds rfl (Int.le_trans (by decide : (0:Int) ≤ 1) l50) u50 ⟨_, _, _, rfl, hI, hX, ⟨_, rfl, (Int.le_trans (by decide : (0:Int) ≤ 1) l50), u50, (show ((0 ≤ ar1.toInt ∧ ar1.toInt ≤ 9999 ∧ 1 ≤ ar2.toInt ∧ ar2.toInt ≤ 20 ∧ ar1.toInt + ar2.toInt ≤ 10000) ∧ (gi 70 8).toInt ≠ 0 → w50.toInt = 1) ∧ (¬ ((0 ≤ ar1.toInt ∧ ar1.toInt ≤ 9999 ∧ 1 ≤ ar2.toInt ∧ ar2.toInt ≤ 20 ∧ ar1.toInt + ar2.toInt ≤ 10000) ∧ (gi 70 8).toInt ≠ 0) → w50.toInt = 0) from ⟨fun _ => (by omega), fun _ => (by omega)⟩)⟩⟩
                · have r51 : y44_4.toInt < ar2.toInt := Int32.lt_iff_toInt_lt.mp (t_nle h45)
                  have u52 : y44_4.toInt ≤ 19 := t_ltu (t_nle h45) u30 rfl
                  refine ev_loc f_X12_odds (nx := 44) rfl rfl rfl rfl ?_
                  refine ev_loc f_X12_odds (nx := 45) rfl rfl rfl rfl ?_
                  refine ev_loc f_X12_odds (nx := 47) rfl rfl rfl rfl ?_
                  refine ev_addR f_X12_odds (nx := 48) (l := 0) (u := 10018) rfl l8 u15 l44_4 u52 rfl rfl (by decide) (by decide) rfl (fun z53 e53 l53 u53 => ?_)
                  refine ev_c0 f_X12_odds (nx := 51) (r := []) rfl rfl rfl rfl rfl rfl rfl (c_m_keeps hI (z53) j44_0) rfl hX rfl (fun gi54 gl54 gr54 hI hX hC54 => ?_)
                  refine ev_loc f_X12_odds (nx := 52) rfl rfl rfl rfl ?_
                  refine ev_loc f_X12_odds (nx := 53) rfl rfl rfl rfl ?_
                  refine ev_getI f_X12_odds (nx := 56) rfl (hI.wf.s rfl) rfl rfl rfl ?_
                  refine ev_if f_X12_odds (t1 := 59) (t2 := 70) rfl rfl rfl (fun h55 => ?_) (fun h55 => ?_)
                  · have u56 : (gi54 69 67).toInt ≤ 0 := t_equ h55 (by decide : (0:Int32).toInt ≤ (0:Int))
                    have l57 : 0 ≤ (gi54 69 67).toInt := t_eql h55 (by decide : (0:Int) ≤ (0:Int32).toInt)
                    refine ev_loc f_X12_odds (nx := 60) rfl rfl rfl rfl ?_
                    refine ev_cI f_X12_odds (nx := 63) (r := [.int y44_3]) rfl rfl rfl rfl rfl rfl rfl (c_m_leftOver hI ) rfl hX rfl (fun w58 gi58 gl58 gr58 l58 u58 hI hX hC58 => ?_)
                    refine ev_if f_X12_odds (t1 := 66) (t2 := 70) rfl rfl rfl (fun h59 => ?_) (fun h59 => ?_)
                    · have u60 : w58.toInt ≤ 0 := t_equ h59 (by decide : (0:Int32).toInt ≤ (0:Int))
                      have l61 : 0 ≤ w58.toInt := t_eql h59 (by decide : (0:Int) ≤ (0:Int32).toInt)
                      refine ev_ic f_X12_odds (nx := 67) (v := 1) rfl (by decide) rfl ?_
                      refine ev_jmp f_X12_odds (nx := 71) rfl rfl rfl ?_
                      refine ev_addC f_X12_odds (nx := 72) (c := 1) (l := 1) (u := 21) rfl (by decide) l44_3 u44_3 rfl rfl (by decide) (by decide) rfl (fun z62 e62 l62 u62 => ?_)
                      refine ev_loc f_X12_odds (nx := 73) (lo' := [(3, .int z62), (4, .int y44_4), (0, .ref 69), (1, .int ar1), (2, .int ar2)]) rfl rfl rfl rfl ?_
                      refine ev_incR f_X12_odds (nx := 76) (c := 1) (l := 1) (u := 20) rfl rfl (by decide) (by decide) l44_4 u52 rfl rfl (by decide) (by decide) rfl (fun z63 e63 l63 u63 => ?_)
                      refine ev_jmp f_X12_odds (nx := 37) rfl rfl rfl ?_
                      refine ev_sub (lo := [(4, .int z63), (3, .int z62), (0, .ref 69), (1, .int ar1), (2, .int ar2)]) rfl (t_sc rfl (t_sc rfl (t_sc rfl (t_sc rfl (t_sc rfl t_sn))))) ?_
                      exact ih44 _ (by omega) gi58 gl58 gr58 (z63) (z62) hI hX  (Int.le_trans (by decide : (0:Int) ≤ 1) l63) u63 (Int.le_trans (by decide : (0:Int) ≤ 1) l62) (by omega : z62.toInt ≤ (20:Int)) ((hC58.1 70 8 rfl).1.trans ((hC54.1 70 8 rfl).1.trans c44_0)) (by have hq := ((funext (fun j => (hC58.1 70 j rfl).1) : gi58 70 = gi54 70).trans ((funext (fun j => (hC54.1 70 j rfl).1) : gi54 70 = gi44 70))); rw [hq]; exact j44_0) (by omega) (by omega) rfl
                    · have r64 : w58.toInt ≠ 0 := fun e => h59 (Int32.toInt_inj.mp (e.trans (by decide : (0:Int) = (0 : Int32).toInt)))
                      refine ev_ic f_X12_odds (nx := 71) (v := 0) rfl (by decide) rfl ?_
                      refine ev_addC f_X12_odds (nx := 72) (c := 0) (l := 0) (u := 20) rfl (by decide) l44_3 u44_3 rfl rfl (by decide) (by decide) rfl (fun z65 e65 l65 u65 => ?_)
                      refine ev_loc f_X12_odds (nx := 73) (lo' := [(3, .int z65), (4, .int y44_4), (0, .ref 69), (1, .int ar1), (2, .int ar2)]) rfl rfl rfl rfl ?_
                      refine ev_incR f_X12_odds (nx := 76) (c := 1) (l := 1) (u := 20) rfl rfl (by decide) (by decide) l44_4 u52 rfl rfl (by decide) (by decide) rfl (fun z66 e66 l66 u66 => ?_)
                      refine ev_jmp f_X12_odds (nx := 37) rfl rfl rfl ?_
                      refine ev_sub (lo := [(4, .int z66), (3, .int z65), (0, .ref 69), (1, .int ar1), (2, .int ar2)]) rfl (t_sc rfl (t_sc rfl (t_sc rfl (t_sc rfl (t_sc rfl t_sn))))) ?_
                      exact ih44 _ (by omega) gi58 gl58 gr58 (z66) (z65) hI hX  (Int.le_trans (by decide : (0:Int) ≤ 1) l66) u66 l65 u65 ((hC58.1 70 8 rfl).1.trans ((hC54.1 70 8 rfl).1.trans c44_0)) (by have hq := ((funext (fun j => (hC58.1 70 j rfl).1) : gi58 70 = gi54 70).trans ((funext (fun j => (hC54.1 70 j rfl).1) : gi54 70 = gi44 70))); rw [hq]; exact j44_0) (by omega) (by omega) rfl
                  · have r67 : (gi54 69 67).toInt ≠ 0 := fun e => h55 (Int32.toInt_inj.mp (e.trans (by decide : (0:Int) = (0 : Int32).toInt)))
                    refine ev_ic f_X12_odds (nx := 71) (v := 0) rfl (by decide) rfl ?_
                    refine ev_addC f_X12_odds (nx := 72) (c := 0) (l := 0) (u := 20) rfl (by decide) l44_3 u44_3 rfl rfl (by decide) (by decide) rfl (fun z68 e68 l68 u68 => ?_)
                    refine ev_loc f_X12_odds (nx := 73) (lo' := [(3, .int z68), (4, .int y44_4), (0, .ref 69), (1, .int ar1), (2, .int ar2)]) rfl rfl rfl rfl ?_
                    refine ev_incR f_X12_odds (nx := 76) (c := 1) (l := 1) (u := 20) rfl rfl (by decide) (by decide) l44_4 u52 rfl rfl (by decide) (by decide) rfl (fun z69 e69 l69 u69 => ?_)
                    refine ev_jmp f_X12_odds (nx := 37) rfl rfl rfl ?_
                    refine ev_sub (lo := [(4, .int z69), (3, .int z68), (0, .ref 69), (1, .int ar1), (2, .int ar2)]) rfl (t_sc rfl (t_sc rfl (t_sc rfl (t_sc rfl (t_sc rfl t_sn))))) ?_
                    exact ih44 _ (by omega) gi54 gl54 gr54 (z69) (z68) hI hX  (Int.le_trans (by decide : (0:Int) ≤ 1) l69) u69 l68 u68 ((hC54.1 70 8 rfl).1.trans c44_0) (by have hq := ((funext (fun j => (hC54.1 70 j rfl).1) : gi54 70 = gi44 70)); rw [hq]; exact j44_0) (by omega) (by omega) rfl
              refine ev_sub (lo := [(4, .int 0), (3, .int 0), (0, .ref 69), (1, .int ar1), (2, .int ar2)]) rfl (t_sc rfl (t_sc rfl (t_sc rfl (t_sc rfl (t_sc rfl t_sn))))) ?_
              exact L44 _ gi gl gr (0) (0) hI hX  (by decide : (0:Int) ≤ (0:Int32).toInt) (Int.le_trans (by decide : (0:Int32).toInt ≤ (0:Int)) (by decide : (0:Int) ≤ 20)) (by decide : (0:Int) ≤ (0:Int32).toInt) (Int.le_trans (by decide : (0:Int32).toInt ≤ (0:Int)) (by decide : (0:Int) ≤ 20)) rfl e_p0 (by have kf70 : (0 : Int32).toInt = 0 := (by decide); omega) (by have kf71 : (0 : Int32).toInt = 0 := (by decide); omega) rfl
/-! ===== odds: whether it is answered, the same on both sides ===== -/
section ODS
variable {sh : List (Nat ⊕ (Nat × Nat))} {gi g1 g2 : Nat → Nat → Int32} {gl l1 l2 : Nat → Nat → Int64} {gr r1 r2 : Nat → Nat → Value} {w1 : List (Nat × Nat)} {A A2 x1 x2 : Int32}
theorem t_RN_8 {n : Nat} {v : Value} (h : t_RN n gi v 0) : v ≠ .null ↔ (gi 70 8).toInt ≠ 0 := by
  rcases h with ⟨a, _, b⟩ | ⟨u, a, _, _, b⟩
  · have b8 : (gi 70 8).toInt = 0 := b
    exact ⟨fun h => absurd a h, fun h => absurd b8 h⟩
  · have b8 : (gi 70 8).toInt = 1 := b
    exact ⟨fun _ => by omega, fun _ h2 => by cases a.symm.trans h2⟩
theorem t_L_odds (hS : t_RnN sh.length gi gr) (f1 : t_F w1 gi gl gr g1 l1 r1) (h70 : t_nc w1 70 = true) (q1 : Q_d_odds gi gl gr A A2 x1 g1 l1 r1) (q2 : Q_e_odds g1 l1 r1 A A2 x2 g2 l2 r2) : x1 = x2 := by
  have r70 : g1 70 = gi 70 := t_F_nc f1 h70 (by decide)
  have k2 := q2
  unfold Q_e_odds at k2
  rw [r70] at k2
  have h8 := t_RN_8 hS.1
  apply Int32.toInt_inj.mp
  by_cases hin : (0 ≤ A.toInt ∧ A.toInt ≤ 9999 ∧ 1 ≤ A2.toInt ∧ A2.toInt ≤ 20 ∧ A.toInt + A2.toInt ≤ 10000) ∧ gr 0 7 ≠ .null
  · rw [q1.1 hin, k2.1 ⟨hin.1, h8.mp hin.2⟩]
  · rw [q1.2 hin, k2.2 (fun h => hin ⟨h.1, h8.mpr h.2⟩)]
end ODS
