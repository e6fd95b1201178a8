/-! ===== printed by riv.py: a day of the other side ===== -/
noncomputable def wl_y_passesOver : List (Nat × Nat) := [(69, 64)]
noncomputable def Q_y_passesOver (gi : Nat → Nat → Int32) (gl : Nat → Nat → Int64) (gr : Nat → Nat → Value) : (Nat → Nat → Int32) → (Nat → Nat → Int64) → (Nat → Nat → Value) → Prop := fun (gi2 : Nat → Nat → Int32) (gl2 : Nat → Nat → Int64) (gr2 : Nat → Nat → Value) => (∀ (n : Nat) (Z : Nat → Int), n = t_S gi → t_YS n Z gi → t_YS n Z gi2 ∧ (gi2 69 64).toInt = ((s_f1 Z n 0 : Nat) : Int))
theorem c_y_passesOver {X : x_Ext} {d : Nat} {sh : List (Nat ⊕ (Nat × Nat))} {gi : Nat → Nat → Int32} {gl : Nat → Nat → Int64} {gr : Nat → Nat → Value} (hI : t_I sh gi gr) : x_Me X (d + 1) n_X12_passesOver [.ref 69] (sh, gi, gl, gr) (t_PN wl_y_passesOver sh gi gl gr (Q_y_passesOver gi gl gr)) := by
  have hX : t_X wl_y_passesOver sh gi gl gr gi gl gr := t_X.rf
  refine me_i f_X12_passesOver (hI.wf.s rfl) rfl rfl rfl ?_
  obtain ⟨l1, u1⟩ := hI.b (hI.wf.s (k := 69) rfl) (t_bdK rfl : t_bd 11 64 = some (0, 6))
  have L2 : ∀ (m2 : Nat) (gi2 : Nat → Nat → Int32) (gl2 : Nat → Nat → Int64) (gr2 : Nat → Nat → Value), t_I sh gi2 gr2 → t_X wl_y_passesOver sh gi gl gr gi2 gl2 gr2 → (∀ (n : Nat) (Z : Nat → Int), n = t_S gi → t_YS n Z gi → t_YS n Z gi2) → (6 - (gi2 69 64).toInt).toNat = m2 → x_Ev X (d + 1) n_X12_passesOver 0 [(0, .ref 69)] [] (sh, gi2, gl2, gr2) (t_PN wl_y_passesOver sh gi gl gr (Q_y_passesOver gi gl gr)) := by
    intro m2
    induction m2 using Nat.strongRecOn with
    | _ m2 ih2 =>
    intro gi2 gl2 gr2 hI hX j2_0 hm2
    obtain ⟨l3, u3⟩ := hI.b (hI.wf.s (k := 69) rfl) (t_bdK rfl : t_bd 11 64 = some (0, 6))
    refine ev_loc f_X12_passesOver (nx := 1) rfl rfl rfl rfl ?_
    refine ev_gvI f_X12_passesOver (nx := 4) (w := (gi2 69 64)) rfl (hI.wf.s rfl) rfl rfl rfl rfl ?_
    refine ev_loc f_X12_passesOver (nx := 5) rfl rfl rfl rfl ?_
    refine ev_getI f_X12_passesOver (nx := 8) rfl (hI.wf.s rfl) rfl rfl rfl ?_
    obtain ⟨l4, u4⟩ := hI.b (hI.wf.s (k := 69) rfl) (t_bdK rfl : t_bd 11 44 = some (0, 6))
    refine ev_if f_X12_passesOver (t1 := 41) (t2 := 11) rfl rfl rfl (fun h5 => ?_) (fun h5 => ?_)
    · have r6 : (gi2 69 44).toInt ≤ (gi2 69 64).toInt := Int32.le_iff_toInt_le.mp h5
      exact ev_ret f_X12_passesOver rfl rfl rfl ⟨_, _, _, rfl, hI, hX, ⟨rfl, (show (∀ (n : Nat) (Z : Nat → Int), n = t_S gi → t_YS n Z gi → t_YS n Z gi2 ∧ (gi2 69 64).toInt = ((s_f1 Z n 0 : Nat) : Int)) from (fun n Z hn h => (by
                                                            have h1 := j2_0 n Z hn h
                                                            have h64 := h1.1
                                                            have e44 : (gi2 69 44).toInt = (gi 69 44).toInt := congrArg Int32.toInt (t_F_X hX 69 44 (by decide) rfl).1
                                                            have hnn : (n : Int) = (gi 69 44).toInt := by rw [hn]; unfold t_S; omega
                                                            exact ⟨h1, h1.f1 (fun hlt => by omega)⟩)))⟩⟩
    · have r7 : (gi2 69 64).toInt < (gi2 69 44).toInt := Int32.lt_iff_toInt_lt.mp (t_nle h5)
      have u8 : (gi2 69 64).toInt ≤ 5 := t_ltu (t_nle h5) u4 rfl
      have l9 : 1 ≤ (gi2 69 44).toInt := t_ltl (t_nle h5) l3 rfl
      have hXp2 := hX
      refine ev_loc f_X12_passesOver (nx := 12) rfl rfl rfl rfl ?_
      refine ev_getR f_X12_passesOver (nx := 15) rfl (hI.wf.s rfl) rfl rfl (hI.wf.r rfl) rfl rfl ?_
      refine ev_loc f_X12_passesOver (nx := 16) rfl rfl rfl rfl ?_
      refine ev_getR f_X12_passesOver (nx := 19) rfl (hI.wf.s rfl) rfl rfl (hI.wf.r rfl) rfl rfl ?_
      refine ev_loc f_X12_passesOver (nx := 20) rfl rfl rfl rfl ?_
      refine ev_gvI f_X12_passesOver (nx := 23) (w := (gi2 69 64)) rfl (hI.wf.s rfl) rfl rfl rfl rfl ?_
      refine ev_ialdT f_X12_passesOver (nx := 24) rfl (hI.wf.s rfl) l3 (by decide) u8 (by decide) rfl (fun w10 e10 => ?_)
      obtain ⟨l10, u10⟩ := hI.abi e10 (by decide +kernel : t_abr 90 0 5 0 5 = true) l3 (by decide) u8 (by decide)
      refine ev_baldT f_X12_passesOver (nx := 25) rfl (hI.wf.s rfl) rfl l10 (by decide) u10 (by decide) rfl (fun w11 e11 => ?_)
      obtain ⟨l11, u11⟩ := hI.abi e11 (by decide +kernel : t_abr 99 0 5 0 1 = true) l10 (by decide) u10 (by decide)
      refine ev_if f_X12_passesOver (t1 := 41) (t2 := 28) rfl rfl rfl (fun h12 => ?_) (fun h12 => ?_)
      · have u13 : w11.toInt ≤ 0 := t_equ h12 (by decide : (0:Int32).toInt ≤ (0:Int))
        exact ev_ret f_X12_passesOver rfl rfl rfl ⟨_, _, _, rfl, hI, hX, ⟨rfl, (show (∀ (n : Nat) (Z : Nat → Int), n = t_S gi → t_YS n Z gi → t_YS n Z gi2 ∧ (gi2 69 64).toInt = ((s_f1 Z n 0 : Nat) : Int)) from (fun n Z hn h => (by
                                                            have h1 := j2_0 n Z hn h
                                                            have h64 := h1.1
                                                            have e44 : (gi2 69 44).toInt = (gi 69 44).toInt := congrArg Int32.toInt (t_F_X hX 69 44 (by decide) rfl).1
                                                            have hnn : (n : Int) = (gi 69 44).toInt := by rw [hn]; unfold t_S; omega
                                                            have c2 := t_clamp (i := w10) (by omega)
                                                            have ci := t_clamp (i := (gi2 69 64)) (by omega)
                                                            have hs : t_si gi2 (gi2 69 64).toInt.toNat = w10.toNatClampNeg := by unfold t_si; rw [show (gi2 69 64).toInt.toNat = (gi2 69 64).toNatClampNeg by omega, ← e10]; omega
                                                            have hw : (gi2 99 (t_si gi2 (gi2 69 64).toInt.toNat)).toInt = w11.toInt := by rw [hs, e11]
                                                            exact ⟨h1, h1.f1 (fun _ => by omega)⟩)))⟩⟩
      · have r14 : w11.toInt ≠ 0 := fun e => h12 (Int32.toInt_inj.mp (e.trans (by decide : (0:Int) = (0 : Int32).toInt)))
        have l15 : 1 ≤ w11.toInt := t_nel h12 l11 rfl rfl
        refine ev_loc f_X12_passesOver (nx := 29) rfl rfl rfl rfl ?_
        refine ev_alu f_X12_passesOver (nx := 30) rfl rfl rfl rfl ?_
        refine ev_gvI f_X12_passesOver (nx := 33) (w := (gi2 69 64)) rfl (hI.wf.s rfl) rfl rfl rfl rfl ?_
        refine ev_ic f_X12_passesOver (nx := 34) (v := 1) rfl (by decide) rfl ?_
        refine ev_addC f_X12_passesOver (nx := 35) (c := 1) (l := 1) (u := 6) rfl (by decide) l3 u8 rfl rfl (by decide) (by decide) rfl (fun z16 e16 l16 u16 => ?_)
        refine ev_putIT f_X12_passesOver (nx := 38) rfl (hI.wf.s rfl) rfl rfl rfl (hI.putB (hI.wf.s rfl) rfl rfl l16 (by decide) u16 (by decide)) (hX.upI rfl) (fun g17 e17 hI hX => ?_)
        refine ev_jmp f_X12_passesOver (nx := 0) rfl rfl rfl ?_
        refine ev_sub (lo := [(0, .ref 69)]) rfl (t_sc rfl t_sn) ?_
        have hq2 := ((by rw [e17]; exact x_up2_at _ _ _ _ : g17 69 64 = z16) : g17 69 64 = z16)
        exact ih2 _ (by rw [hq2]; omega) g17 gl2 gr2  hI hX  (fun n Z hn h => (by
                                                            have h1 := j2_0 n Z hn h
                                                            have h64 := h1.1
                                                            have e44 : (gi2 69 44).toInt = (gi 69 44).toInt := congrArg Int32.toInt (t_F_X hXp2 69 44 (by decide) rfl).1
                                                            have hnn : (n : Int) = (gi 69 44).toInt := by rw [hn]; unfold t_S; omega
                                                            have hlt : (gi2 69 64).toInt < (n : Int) := by omega
                                                            have c2 := t_clamp (i := w10) (by omega)
                                                            have ci := t_clamp (i := (gi2 69 64)) (by omega)
                                                            have hs : t_si gi2 (gi2 69 64).toInt.toNat = w10.toNatClampNeg := by unfold t_si; rw [show (gi2 69 64).toInt.toNat = (gi2 69 64).toNatClampNeg by omega, ← e10]; omega
                                                            have hw : (gi2 99 (t_si gi2 (gi2 69 64).toInt.toNat)).toInt = w11.toInt := by rw [hs, e11]
                                                            have ha := (h1.2 (gi2 69 64).toInt.toNat (by omega)).1
                                                            exact h1.adv hlt (fun hz => by rw [if_neg (by omega)] at ha; omega) (by rw [e17, x_up2_at]; omega) (funext fun j => by rw [e17, x_up2_off (Or.inl (by decide))]) (funext fun j => by rw [e17, x_up2_off (Or.inl (by decide))]))) rfl
  refine ev_sub (lo := [(0, .ref 69)]) rfl (t_sc rfl t_sn) ?_
  exact L2 _ gi gl gr  hI hX  (fun n Z hn h => h) rfl
noncomputable def wl_y_strikes : List (Nat × Nat) := [(69, 64), (69, 67), (99, 9999)]
noncomputable def Q_y_strikes (gi : Nat → Nat → Int32) (gl : Nat → Nat → Int64) (gr : Nat → Nat → Value) : (Nat → Nat → Int32) → (Nat → Nat → Int64) → (Nat → Nat → Value) → Prop := fun (gi2 : Nat → Nat → Int32) (gl2 : Nat → Nat → Int64) (gr2 : Nat → Nat → Value) => (∀ (P : Nat → Nat → Int) (Z : Nat → Int) (q : Int), s_TP gi q P → t_IJ (P 0 0).toNat gi → t_YS (P 0 0).toNat Z gi → t_MO (gi 69 59).toInt Z gi → gi 69 67 = Int32.ofInt (Z 6) → t_YS (P 0 0).toNat (s_skz P (gi 69 59).toInt (P 0 0).toNat 0 Z) gi2 ∧ gi2 69 67 = Int32.ofInt ((s_skz P (gi 69 59).toInt (P 0 0).toNat 0 Z) 6) ∧ (gi2 69 64).toInt = ((s_f1 (s_skz P (gi 69 59).toInt (P 0 0).toNat 0 Z) (P 0 0).toNat 0 : Nat) : Int))
theorem c_y_strikes {X : x_Ext} {d : Nat} {sh : List (Nat ⊕ (Nat × Nat))} {gi : Nat → Nat → Int32} {gl : Nat → Nat → Int64} {gr : Nat → Nat → Value} (hI : t_I sh gi gr) : x_Me X (d + 2) n_X12_strikes [.ref 69] (sh, gi, gl, gr) (t_PN wl_y_strikes sh gi gl gr (Q_y_strikes gi gl gr)) := by
  have hX : t_X wl_y_strikes sh gi gl gr gi gl gr := t_X.rf
  refine me_i f_X12_strikes (hI.wf.s rfl) rfl rfl rfl ?_
  obtain ⟨l1, u1⟩ := hI.b (hI.wf.s (k := 69) rfl) (t_bdK rfl : t_bd 11 59 = some (0, 301))
  obtain ⟨l2, u2⟩ := hI.b (hI.wf.s (k := 69) rfl) (t_bdK rfl : t_bd 11 64 = some (0, 6))
  refine ev_loc f_X12_strikes (nx := 1) rfl rfl rfl rfl ?_
  refine ev_qN f_X12_strikes (nx := 4) (r := []) rfl rfl rfl rfl rfl rfl rfl (c_y_passesOver hI ) rfl hX rfl (fun gi3 gl3 gr3 hI hX hC3 q3 => ?_)
  have q3 : (∀ (n : Nat) (Z : Nat → Int), n = t_S gi → t_YS n Z gi → t_YS n Z gi3 ∧ (gi3 69 64).toInt = ((s_f1 Z n 0 : Nat) : Int)) := q3
  obtain ⟨l4, u4⟩ := hI.b (hI.wf.s (k := 69) rfl) (t_bdK rfl : t_bd 11 64 = some (0, 6))
  refine ev_loc f_X12_strikes (nx := 5) rfl rfl rfl rfl ?_
  refine ev_gvI f_X12_strikes (nx := 8) (w := (gi3 69 64)) rfl (hI.wf.s rfl) rfl rfl rfl rfl ?_
  refine ev_loc f_X12_strikes (nx := 9) (lo' := [(1, .int (gi3 69 64)), (0, .ref 69)]) rfl rfl rfl rfl ?_
  have L5 : ∀ (m5 : Nat) (gi5 : Nat → Nat → Int32) (gl5 : Nat → Nat → Int64) (gr5 : Nat → Nat → Value) (y5_1 : Int32), t_I sh gi5 gr5 → t_X wl_y_strikes sh gi gl gr gi5 gl5 gr5 → 0 ≤ y5_1.toInt → y5_1.toInt ≤ 6 → gi5 69 59 = (gi 69 59) → (∀ (P : Nat → Nat → Int) (Z : Nat → Int) (q : Int), s_TP gi q P → t_IJ (P 0 0).toNat gi → t_YS (P 0 0).toNat Z gi → t_MO (gi 69 59).toInt Z gi → gi 69 67 = Int32.ofInt (Z 6) → ∃ Y, t_YS (P 0 0).toNat Y gi5 ∧ gi5 69 67 = Int32.ofInt (Y 6) ∧ s_skz P (gi 69 59).toInt ((P 0 0).toNat - y5_1.toNatClampNeg) y5_1.toNatClampNeg Y = s_skz P (gi 69 59).toInt (P 0 0).toNat 0 Z ∧ y5_1.toInt ≤ P 0 0 ∧ (∀ j : Nat, y5_1.toInt ≤ (j : Int) → j < (P 0 0).toNat → Y (10 + j) ≠ 1) ∧ Y 0 = Z 0 ∧ Y 1 = Z 1) → (6 - y5_1.toInt).toNat = m5 → x_Ev X (d + 2) n_X12_strikes 9 [(1, .int y5_1), (0, .ref 69)] [] (sh, gi5, gl5, gr5) (t_PN wl_y_strikes sh gi gl gr (Q_y_strikes gi gl gr)) := by
    intro m5
    induction m5 using Nat.strongRecOn with
    | _ m5 ih5 =>
    intro gi5 gl5 gr5 y5_1 hI hX l5_1 u5_1 c5_0 j5_0 hm5
    obtain ⟨l6, u6⟩ := hI.b (hI.wf.s (k := 69) rfl) (t_bdK rfl : t_bd 11 64 = some (0, 6))
    refine ev_loc f_X12_strikes (nx := 10) rfl rfl rfl rfl ?_
    refine ev_loc f_X12_strikes (nx := 11) rfl rfl rfl rfl ?_
    refine ev_getI f_X12_strikes (nx := 14) rfl (hI.wf.s rfl) rfl rfl rfl ?_
    obtain ⟨l7, u7⟩ := hI.b (hI.wf.s (k := 69) rfl) (t_bdK rfl : t_bd 11 44 = some (0, 6))
    refine ev_if f_X12_strikes (t1 := 111) (t2 := 17) rfl rfl rfl (fun h8 => ?_) (fun h8 => ?_)
    · have r9 : (gi5 69 44).toInt ≤ y5_1.toInt := Int32.le_iff_toInt_le.mp h8
      have hXe := hX
      refine ev_loc f_X12_strikes (nx := 112) rfl rfl rfl rfl ?_
      refine ev_qN f_X12_strikes (nx := 115) (r := []) rfl rfl rfl rfl rfl rfl rfl (c_y_passesOver hI ) rfl hX rfl (fun gi10 gl10 gr10 hI hX hC10 q10 => ?_)
      have q10 : (∀ (n : Nat) (Z : Nat → Int), n = t_S gi5 → t_YS n Z gi5 → t_YS n Z gi10 ∧ (gi10 69 64).toInt = ((s_f1 Z n 0 : Nat) : Int)) := q10
      obtain ⟨l11, u11⟩ := hI.b (hI.wf.s (k := 69) rfl) (t_bdK rfl : t_bd 11 64 = some (0, 6))
      exact ev_ret f_X12_strikes rfl rfl rfl ⟨_, _, _, rfl, hI, hX, ⟨rfl, (show (∀ (P : Nat → Nat → Int) (Z : Nat → Int) (q : Int), s_TP gi q P → t_IJ (P 0 0).toNat gi → t_YS (P 0 0).toNat Z gi → t_MO (gi 69 59).toInt Z gi → gi 69 67 = Int32.ofInt (Z 6) → t_YS (P 0 0).toNat (s_skz P (gi 69 59).toInt (P 0 0).toNat 0 Z) gi10 ∧ gi10 69 67 = Int32.ofInt ((s_skz P (gi 69 59).toInt (P 0 0).toNat 0 Z) 6) ∧ (gi10 69 64).toInt = ((s_f1 (s_skz P (gi 69 59).toInt (P 0 0).toNat 0 Z) (P 0 0).toNat 0 : Nat) : Int)) from (fun P Z q hP hJ hZ hO h6 => (by
                                                            obtain ⟨Y, h1, h2, h3, h4, h5, h7, h8⟩ := j5_0 P Z q hP hJ hZ hO h6
                                                            have fX := t_F_X hXe
                                                            have k90 : gi5 90 = gi 90 := t_F_nc fX rfl (by decide)
                                                            have k89 : gi5 89 = gi 89 := t_F_nc fX rfl (by decide)
                                                            have k70 : gi5 70 = gi 70 := t_F_nc fX rfl (by decide)
                                                            have k44 : (gi5 69 44).toInt = (gi 69 44).toInt := congrArg Int32.toInt (fX 69 44 (by decide) rfl).1
                                                            have k59 : (gi5 69 59).toInt = (gi 69 59).toInt := congrArg Int32.toInt (fX 69 59 (by decide) rfl).1
                                                            have k60 : (gi5 69 60).toInt = (gi 69 60).toInt := congrArg Int32.toInt (fX 69 60 (by decide) rfl).1
                                                            have k61 : (gi5 69 61).toInt = (gi 69 61).toInt := congrArg Int32.toInt (fX 69 61 (by decide) rfl).1
                                                            have k62 : (gi5 69 62).toInt = (gi 69 62).toInt := congrArg Int32.toInt (fX 69 62 (by decide) rfl).1
                                                            have hp0 : P 0 0 = ((t_S gi : Nat) : Int) := hP.1.1
                                                            have hts : t_S gi = (gi 69 44).toInt.toNat := rfl
                                                            have cy := t_clamp (i := y5_1) (by omega)
                                                            rw [show (P 0 0).toNat - y5_1.toNatClampNeg = 0 by omega] at h3
                                                            have h3c : Y = s_skz P (gi 69 59).toInt (P 0 0).toNat 0 Z := h3
                                                            obtain ⟨h1b, h2b⟩ := q10 (P 0 0).toNat Y (by unfold t_S; omega) h1
                                                            rw [← h3c]
                                                            exact ⟨h1b, by rw [(hC10.1 69 67 rfl).1]; exact h2, h2b⟩)))⟩⟩
    · have r12 : y5_1.toInt < (gi5 69 44).toInt := Int32.lt_iff_toInt_lt.mp (t_nle h8)
      have u13 : y5_1.toInt ≤ 5 := t_ltu (t_nle h8) u7 rfl
      have l14 : 1 ≤ (gi5 69 44).toInt := t_ltl (t_nle h8) l5_1 rfl
      have hXs5 := hX
      refine ev_loc f_X12_strikes (nx := 18) rfl rfl rfl rfl ?_
      refine ev_getR f_X12_strikes (nx := 21) rfl (hI.wf.s rfl) rfl rfl (hI.wf.r rfl) rfl rfl ?_
      refine ev_loc f_X12_strikes (nx := 22) rfl rfl rfl rfl ?_
      refine ev_ialdT f_X12_strikes (nx := 23) rfl (hI.wf.s rfl) l5_1 (by decide) u13 (by decide) rfl (fun w15 e15 => ?_)
      obtain ⟨l15, u15⟩ := hI.abi e15 (by decide +kernel : t_abr 90 0 5 0 5 = true) l5_1 (by decide) u13 (by decide)
      refine ev_loc f_X12_strikes (nx := 24) (lo' := [(2, .int w15), (1, .int y5_1), (0, .ref 69)]) rfl rfl rfl rfl ?_
      refine ev_loc f_X12_strikes (nx := 25) rfl rfl rfl rfl ?_
      refine ev_getR f_X12_strikes (nx := 28) rfl (hI.wf.s rfl) rfl rfl (hI.wf.r rfl) rfl rfl ?_
      refine ev_loc f_X12_strikes (nx := 29) rfl rfl rfl rfl ?_
      refine ev_baldT f_X12_strikes (nx := 30) rfl (hI.wf.s rfl) rfl l15 (by decide) u15 (by decide) rfl (fun w16 e16 => ?_)
      obtain ⟨l16, u16⟩ := hI.abi e16 (by decide +kernel : t_abr 99 0 5 0 1 = true) l15 (by decide) u15 (by decide)
      refine ev_if f_X12_strikes (t1 := 33) (t2 := 105) rfl rfl rfl (fun h17 => ?_) (fun h17 => ?_)
      · have u18 : w16.toInt ≤ 0 := t_equ h17 (by decide : (0:Int32).toInt ≤ (0:Int))
        refine ev_loc f_X12_strikes (nx := 34) rfl rfl rfl rfl ?_
        refine ev_loc f_X12_strikes (nx := 35) rfl rfl rfl rfl ?_
        refine ev_ic f_X12_strikes (nx := 36) (v := 4) rfl (by decide) rfl ?_
        refine ev_inV3 f_X12_strikes (nx := 39) (lo2 := [(0, .ref 69), (1, .int w15), (2, .int 4)]) rfl rfl rfl rfl f_X12_ofShip (hI.wf.s rfl) rfl rfl rfl rfl rfl ?_
        refine ev_loc f_X12_ofShip (nx := 1) rfl rfl rfl rfl ?_
        refine ev_getR f_X12_ofShip (nx := 4) rfl (hI.wf.s rfl) rfl rfl (hI.wf.r rfl) rfl rfl ?_
        refine ev_bp f_X12_ofShip (nx := 6) (v := 52) rfl (by decide) rfl ?_
        refine ev_ic f_X12_ofShip (nx := 7) (v := 5) rfl (by decide) rfl ?_
        refine ev_loc f_X12_ofShip (nx := 8) rfl rfl rfl rfl ?_
        refine ev_mulL f_X12_ofShip (nx := 9) (c := 5) (l := 0) (u := 25) rfl (by decide) (by decide) l15 u15 rfl rfl (by decide) (by decide) rfl (fun z19 e19 l19 u19 => ?_)
        refine ev_addK f_X12_ofShip (nx := 10) (c := 52) (l := 52) (u := 77) rfl (by decide) l19 u19 rfl rfl (by decide) (by decide) rfl (fun z20 e20 l20 u20 => ?_)
        refine ev_loc f_X12_ofShip (nx := 11) rfl rfl rfl rfl ?_
        refine ev_addC f_X12_ofShip (nx := 12) (c := 4) (l := 56) (u := 81) rfl (by decide) l20 u20 rfl rfl (by decide) (by decide) rfl (fun z21 e21 l21 u21 => ?_)
        refine ev_ialdT f_X12_ofShip (nx := 13) rfl (hI.wf.s rfl) l21 (by decide) u21 (by decide) rfl (fun w22 e22 => ?_)
        obtain ⟨l22, u22⟩ := hI.abA (x := w15) e22 (by decide +kernel : t_aba 70 56 5 0 5 0 1 = true) (by omega) (by omega) (by omega)
        refine ev_retK1 f_X12_ofShip rfl rfl rfl ?_
        refine ev_if f_X12_strikes (t1 := 105) (t2 := 42) rfl rfl rfl (fun h23 => ?_) (fun h23 => ?_)
        · have u24 : w22.toInt ≤ 0 := t_equ h23 (by decide : (0:Int32).toInt ≤ (0:Int))
          refine ev_incR f_X12_strikes (nx := 108) (c := 1) (l := 1) (u := 6) rfl rfl (by decide) (by decide) l5_1 u13 rfl rfl (by decide) (by decide) rfl (fun z25 e25 l25 u25 => ?_)
          refine ev_jmp f_X12_strikes (nx := 9) rfl rfl rfl ?_
          refine ev_sub (lo := [(1, .int z25), (0, .ref 69)]) rfl (t_sc rfl (t_sc rfl t_sn)) ?_
          exact ih5 _ (by omega) gi5 gl5 gr5 (z25) hI hX  (Int.le_trans (by decide : (0:Int) ≤ 1) l25) u25 c5_0 (fun P Z q hP hJ hZ hO h6 => (by
                                                            obtain ⟨Y, h1, h2, h3, h4, h5, h7, h8⟩ := j5_0 P Z q hP hJ hZ hO h6
                                                            have fX := t_F_X hXs5
                                                            have k90 : gi5 90 = gi 90 := t_F_nc fX rfl (by decide)
                                                            have k89 : gi5 89 = gi 89 := t_F_nc fX rfl (by decide)
                                                            have k70 : gi5 70 = gi 70 := t_F_nc fX rfl (by decide)
                                                            have k44 : (gi5 69 44).toInt = (gi 69 44).toInt := congrArg Int32.toInt (fX 69 44 (by decide) rfl).1
                                                            have k59 : (gi5 69 59).toInt = (gi 69 59).toInt := congrArg Int32.toInt (fX 69 59 (by decide) rfl).1
                                                            have k60 : (gi5 69 60).toInt = (gi 69 60).toInt := congrArg Int32.toInt (fX 69 60 (by decide) rfl).1
                                                            have k61 : (gi5 69 61).toInt = (gi 69 61).toInt := congrArg Int32.toInt (fX 69 61 (by decide) rfl).1
                                                            have k62 : (gi5 69 62).toInt = (gi 69 62).toInt := congrArg Int32.toInt (fX 69 62 (by decide) rfl).1
                                                            have hp0 : P 0 0 = ((t_S gi : Nat) : Int) := hP.1.1
                                                            have hts : t_S gi = (gi 69 44).toInt.toNat := rfl
                                                            have cy := t_clamp (i := y5_1) (by omega)
                                                            have hkn : y5_1.toNatClampNeg < (P 0 0).toNat := by omega
                                                            have hx : z25.toNatClampNeg = y5_1.toNatClampNeg + 1 := by have := t_clamp (i := z25) (by omega); omega
                                                            have h3b : s_skz P (gi 69 59).toInt ((P 0 0).toNat - z25.toNatClampNeg) (y5_1.toNatClampNeg + 1) (s_k1 P (gi 69 59).toInt Y y5_1.toNatClampNeg) = s_skz P (gi 69 59).toInt (P 0 0).toNat 0 Z := by rw [← h3, show (P 0 0).toNat - y5_1.toNatClampNeg = ((P 0 0).toNat - z25.toNatClampNeg) + 1 by omega]; rfl
                                                            obtain ⟨p1, p2, p3, p4⟩ := hP.2.1 y5_1.toNatClampNeg (by omega)
                                                            obtain ⟨a, b, c, d⟩ := h1.2 y5_1.toNatClampNeg hkn
                                                            have cw := t_clamp (i := w15) (by omega)
                                                            have hs : t_si gi5 y5_1.toNatClampNeg = w15.toNatClampNeg := by unfold t_si; rw [← e15]; omega
                                                            have hsi : t_si gi y5_1.toNatClampNeg = w15.toNatClampNeg := by rw [← hs]; unfold t_si; rw [k90]
                                                            rw [hs] at a
                                                            have hg : w16.toInt = (gi5 99 w15.toNatClampNeg).toInt := by rw [e16]
                                                            have hs4 : P 4 y5_1.toNatClampNeg = w22.toInt := by rw [p4]; unfold t_ss; rw [hsi]; rw [e22, show z21.toNatClampNeg = 56 + 5 * w15.toNatClampNeg from (by have := t_clamp (i := z21) (by omega); omega)]; rw [k70]
                                                            have hk1 : s_k1 P (gi 69 59).toInt Y y5_1.toNatClampNeg = Y := s_k1_no (fun hh => by have h9 := hh.1; omega)
                                                            rw [hk1] at h3b
                                                            rw [hx] at h3b
                                                            rw [hx]
                                                            exact ⟨Y, h1, h2, h3b, by omega, fun j e1 e2 => h5 j (by omega) e2, h7, h8⟩)) rfl
        · have r26 : w22.toInt ≠ 0 := fun e => h23 (Int32.toInt_inj.mp (e.trans (by decide : (0:Int) = (0 : Int32).toInt)))
          have l27 : 1 ≤ w22.toInt := t_nel h23 l22 rfl rfl
          refine ev_loc f_X12_strikes (nx := 43) rfl rfl rfl rfl ?_
          refine ev_getR f_X12_strikes (nx := 46) rfl (hI.wf.s rfl) rfl rfl (hI.wf.r rfl) rfl rfl ?_
          refine ev_loc f_X12_strikes (nx := 47) rfl rfl rfl rfl ?_
          refine ev_ialdT f_X12_strikes (nx := 48) rfl (hI.wf.s rfl) l15 (by decide) u15 (by decide) rfl (fun w28 e28 => ?_)
          refine ev_loc f_X12_strikes (nx := 49) rfl rfl rfl rfl ?_
          refine ev_gvI f_X12_strikes (nx := 52) (w := (gi 69 59)) rfl (hI.wf.s rfl) rfl rfl c5_0 rfl ?_
          refine ev_if f_X12_strikes (t1 := 58) (t2 := 55) rfl rfl rfl (fun h29 => ?_) (fun h29 => ?_)
          · have r30 : w28.toInt = (gi 69 59).toInt := t_eqi h29
            have u31 : w28.toInt ≤ 301 := t_equ h29 u1
            have l32 : 0 ≤ w28.toInt := t_eql h29 l1
            refine ev_loc f_X12_strikes (nx := 59) rfl rfl rfl rfl ?_
            refine ev_qN f_X12_strikes (nx := 62) (r := []) rfl rfl rfl rfl rfl rfl rfl (c_y_passesOver hI ) rfl hX rfl (fun gi33 gl33 gr33 hI hX hC33 q33 => ?_)
            have q33 : (∀ (n : Nat) (Z : Nat → Int), n = t_S gi5 → t_YS n Z gi5 → t_YS n Z gi33 ∧ (gi33 69 64).toInt = ((s_f1 Z n 0 : Nat) : Int)) := q33
            obtain ⟨l34, u34⟩ := hI.b (hI.wf.s (k := 69) rfl) (t_bdK rfl : t_bd 11 64 = some (0, 6))
            refine ev_loc f_X12_strikes (nx := 63) rfl rfl rfl rfl ?_
            refine ev_getI f_X12_strikes (nx := 66) rfl (hI.wf.s rfl) rfl rfl rfl ?_
            refine ev_ic f_X12_strikes (nx := 67) (v := 1) rfl (by decide) rfl ?_
            refine ev_if f_X12_strikes (t1 := 70) (t2 := 88) rfl rfl rfl (fun h35 => ?_) (fun h35 => ?_)
            · have u36 : (gi33 69 60).toInt ≤ 1 := t_equ h35 (by decide : (1:Int32).toInt ≤ (1:Int))
              have l37 : 1 ≤ (gi33 69 60).toInt := t_eql h35 (by decide : (1:Int) ≤ (1:Int32).toInt)
              refine ev_loc f_X12_strikes (nx := 71) rfl rfl rfl rfl ?_
              refine ev_inV1 f_X12_strikes (nx := 74) (lo2 := [(0, .ref 69)]) rfl rfl rfl rfl f_X12_isBusy (hI.wf.s rfl) rfl rfl rfl rfl rfl ?_
              refine ev_loc f_X12_isBusy (nx := 1) rfl rfl rfl rfl ?_
              refine ev_getI f_X12_isBusy (nx := 4) rfl (hI.wf.s rfl) rfl rfl rfl ?_
              refine ev_loc f_X12_isBusy (nx := 5) rfl rfl rfl rfl ?_
              refine ev_gvI f_X12_isBusy (nx := 8) (w := (gi 69 59)) rfl (hI.wf.s rfl) rfl rfl ((hC33.1 69 59 rfl).1.trans c5_0) rfl ?_
              refine ev_if f_X12_isBusy (t1 := 22) (t2 := 11) rfl rfl rfl (fun h38 => ?_) (fun h38 => ?_)
              · have r39 : (gi 69 59).toInt < (gi33 69 61).toInt := Int32.lt_iff_toInt_lt.mp h38
                have l40 : 1 ≤ (gi33 69 61).toInt := t_ltl h38 l1 rfl
                refine ev_ic f_X12_isBusy (nx := 23) (v := 1) rfl (by decide) rfl ?_
                refine ev_jmp f_X12_isBusy (nx := 27) rfl rfl rfl ?_
                refine ev_retK1 f_X12_isBusy rfl rfl rfl ?_
                refine ev_f f_X12_strikes (t1 := 77) (t2 := 88) rfl rfl rfl (by decide) ?_
                refine ev_loc f_X12_strikes (nx := 89) rfl rfl rfl rfl ?_
                refine ev_getR f_X12_strikes (nx := 92) rfl (hI.wf.s rfl) rfl rfl (hI.wf.r rfl) rfl rfl ?_
                refine ev_loc f_X12_strikes (nx := 93) rfl rfl rfl rfl ?_
                refine ev_ic f_X12_strikes (nx := 94) (v := 1) rfl (by decide) rfl ?_
                refine ev_zastE f_X12_strikes (nx := 95) rfl (hI.wf.s rfl) l15 (by decide) u15 (by decide) rfl (fun x l u => hI.astL (hI.wf.s rfl) (by decide +kernel : t_abw 99 0 5 0 1 = true) (t_cl1 l15 (by decide)) (t_cl2 l15 u15 (by decide) (by decide)) l u rfl) (fun x => hX.upI (t_inA_ok rfl)) (fun g41 x41 e41 ex41 hI hX => ?_)
                refine ev_loc f_X12_strikes (nx := 96) rfl rfl rfl rfl ?_
                refine ev_alu f_X12_strikes (nx := 97) rfl rfl rfl rfl ?_
                refine ev_getI f_X12_strikes (nx := 100) rfl (hI.wf.s rfl) rfl rfl rfl ?_
                refine ev_ic f_X12_strikes (nx := 101) (v := 1) rfl (by decide) rfl ?_
                refine ev_anyIE f_X12_strikes (nx := 102) rfl rfl rfl rfl (fun z42 e42 => ?_)
                refine ev_putIT f_X12_strikes (nx := 105) rfl (hI.wf.s rfl) rfl rfl rfl (hI.put0 (hI.wf.s rfl) rfl rfl) (hX.upI rfl) (fun g43 e43 hI hX => ?_)
                refine ev_incR f_X12_strikes (nx := 108) (c := 1) (l := 1) (u := 6) rfl rfl (by decide) (by decide) l5_1 u13 rfl rfl (by decide) (by decide) rfl (fun z44 e44 l44 u44 => ?_)
                refine ev_jmp f_X12_strikes (nx := 9) rfl rfl rfl ?_
                refine ev_sub (lo := [(1, .int z44), (0, .ref 69)]) rfl (t_sc rfl (t_sc rfl t_sn)) ?_
                exact ih5 _ (by omega) g43 gl33 gr33 (z44) hI hX  (Int.le_trans (by decide : (0:Int) ≤ 1) l44) u44 ((by rw [e43]; exact x_up2_off (Or.inr (by decide)) : g43 69 59 = g41 69 59).trans ((by rw [e41]; exact x_up2_off (Or.inl (by decide)) : g41 69 59 = gi33 69 59).trans ((hC33.1 69 59 rfl).1.trans c5_0))) (fun P Z q hP hJ hZ hO h6 => (by
                                                            obtain ⟨Y, h1, h2, h3, h4, h5, h7, h8⟩ := j5_0 P Z q hP hJ hZ hO h6
                                                            have fX := t_F_X hXs5
                                                            have k90 : gi5 90 = gi 90 := t_F_nc fX rfl (by decide)
                                                            have k89 : gi5 89 = gi 89 := t_F_nc fX rfl (by decide)
                                                            have k70 : gi5 70 = gi 70 := t_F_nc fX rfl (by decide)
                                                            have k44 : (gi5 69 44).toInt = (gi 69 44).toInt := congrArg Int32.toInt (fX 69 44 (by decide) rfl).1
                                                            have k59 : (gi5 69 59).toInt = (gi 69 59).toInt := congrArg Int32.toInt (fX 69 59 (by decide) rfl).1
                                                            have k60 : (gi5 69 60).toInt = (gi 69 60).toInt := congrArg Int32.toInt (fX 69 60 (by decide) rfl).1
                                                            have k61 : (gi5 69 61).toInt = (gi 69 61).toInt := congrArg Int32.toInt (fX 69 61 (by decide) rfl).1
                                                            have k62 : (gi5 69 62).toInt = (gi 69 62).toInt := congrArg Int32.toInt (fX 69 62 (by decide) rfl).1
                                                            have hp0 : P 0 0 = ((t_S gi : Nat) : Int) := hP.1.1
                                                            have hts : t_S gi = (gi 69 44).toInt.toNat := rfl
                                                            have cy := t_clamp (i := y5_1) (by omega)
                                                            have hkn : y5_1.toNatClampNeg < (P 0 0).toNat := by omega
                                                            have hx : z44.toNatClampNeg = y5_1.toNatClampNeg + 1 := by have := t_clamp (i := z44) (by omega); omega
                                                            have h3b : s_skz P (gi 69 59).toInt ((P 0 0).toNat - z44.toNatClampNeg) (y5_1.toNatClampNeg + 1) (s_k1 P (gi 69 59).toInt Y y5_1.toNatClampNeg) = s_skz P (gi 69 59).toInt (P 0 0).toNat 0 Z := by rw [← h3, show (P 0 0).toNat - y5_1.toNatClampNeg = ((P 0 0).toNat - z44.toNatClampNeg) + 1 by omega]; rfl
                                                            obtain ⟨p1, p2, p3, p4⟩ := hP.2.1 y5_1.toNatClampNeg (by omega)
                                                            obtain ⟨a, b, c, d⟩ := h1.2 y5_1.toNatClampNeg hkn
                                                            have cw := t_clamp (i := w15) (by omega)
                                                            have hs : t_si gi5 y5_1.toNatClampNeg = w15.toNatClampNeg := by unfold t_si; rw [← e15]; omega
                                                            have hsi : t_si gi y5_1.toNatClampNeg = w15.toNatClampNeg := by rw [← hs]; unfold t_si; rw [k90]
                                                            rw [hs] at a
                                                            have hg : w16.toInt = (gi5 99 w15.toNatClampNeg).toInt := by rw [e16]
                                                            have hs4 : P 4 y5_1.toNatClampNeg = w22.toInt := by rw [p4]; unfold t_ss; rw [hsi]; rw [e22, show z21.toNatClampNeg = 56 + 5 * w15.toNatClampNeg from (by have := t_clamp (i := z21) (by omega); omega)]; rw [k70]
                                                            have hc1 : P 1 y5_1.toNatClampNeg = w28.toInt := by rw [p1]; unfold t_sa; rw [hsi, e28, k89]
                                                            have hq := q33 (P 0 0).toNat Y (by unfold t_S; omega) h1
                                                            obtain ⟨h1b, h2b⟩ := hq
                                                            have fc := t_F_X hC33
                                                            have r59 : (gi33 69 59).toInt = (gi 69 59).toInt := (congrArg Int32.toInt (fc 69 59 (by decide) rfl).1).trans k59
                                                            have r60 : (gi33 69 60).toInt = (gi 69 60).toInt := (congrArg Int32.toInt (fc 69 60 (by decide) rfl).1).trans k60
                                                            have r61 : (gi33 69 61).toInt = (gi 69 61).toInt := (congrArg Int32.toInt (fc 69 61 (by decide) rfl).1).trans k61
                                                            have r62 : (gi33 69 62).toInt = (gi 69 62).toInt := (congrArg Int32.toInt (fc 69 62 (by decide) rfl).1).trans k62
                                                            obtain ⟨⟨o1, o2⟩, o3⟩ := hO
                                                            rw [← h7] at o1 o2
                                                            rw [← h8] at o3
                                                            have hz0 : Y (10 + y5_1.toNatClampNeg) = 0 := by have h9 := h5 y5_1.toNatClampNeg (by omega) hkn; have h10 : ¬ Y (10 + y5_1.toNatClampNeg) = 2 := (fun hh => by rw [if_pos hh] at a; omega); omega
                                                            have hna : ¬ (Y 0 = 1 ∧ Y 1 = 0 ∧ s_f1 Y (P 0 0).toNat 0 = y5_1.toNatClampNeg) := fun hh => by have q1 := hh.1; have q2 := hh.2.1; have q3 := hh.2.2; have q4 : ¬ ((gi 69 59).toInt < (gi 69 61).toInt ∨ (gi 69 59).toInt < (gi 69 62).toInt) := fun h9 => o3.mp h9 q2; omega
                                                            have hk1 := s_k1_y (P := P) (m := (gi 69 59).toInt) hna ⟨by omega, by omega, hz0⟩
                                                            rw [hk1] at h3b
                                                            rw [hx] at h3b
                                                            rw [hx]
                                                            have k99 : ∀ j, g43 99 j = if j = t_si gi33 y5_1.toNatClampNeg then 1 else gi33 99 j := fun j => by rw [e43, x_up2_off (Or.inl (by decide)), e41]; have e9 : t_si gi33 y5_1.toNatClampNeg = w15.toNatClampNeg := (by unfold t_si; rw [t_F_nc fc rfl (by decide)]; exact hs); rw [e9]; by_cases hj : j = w15.toNatClampNeg; (rw [if_pos hj, hj, x_up2_at]; first | rfl | exact ex41); (rw [if_neg hj, x_up2_off (Or.inr hj)])
                                                            have hJc : t_IJ (P 0 0).toNat gi33 := fun i j a1 a2 a3 => hJ i j a1 a2 (by unfold t_si at a3 ⊢; rw [t_F_nc fc rfl (by decide), k90] at a3; exact a3)
                                                            have hst := h1b.st (g1 := g43) hJc hkn hz0 (by rw [e43, x_up2_off (Or.inr (by decide)), e41, x_up2_off (Or.inl (by decide))]) (funext fun j => by rw [e43, x_up2_off (Or.inl (by decide)), e41, x_up2_off (Or.inl (by decide))]) k99
                                                            refine ⟨_, hst, ?_, h3b, by omega, fun j e1 e2 => ?_, ?_, ?_⟩
                                                            · rw [e43, x_up2_at, s_z_at]; exact t_oi_add e42 (by first | (rw [e41, x_up2_off (Or.inl (by decide)), (hC33.1 69 67 rfl).1]; exact h2) | (rw [(hC33.1 69 67 rfl).1]; exact h2)) (t_oi_of rfl)
                                                            · rw [s_z_ne (by omega), s_z_ne (by omega)]; exact h5 j (by omega) e2
                                                            · rw [s_z_ne (by decide), s_z_ne (by omega)]; exact h7
                                                            · rw [s_z_ne (by decide), s_z_ne (by omega)]; exact h8)) rfl
              · have r45 : (gi33 69 61).toInt ≤ (gi 69 59).toInt := Int32.le_iff_toInt_le.mp (t_nlt h38)
                have u46 : (gi33 69 61).toInt ≤ 301 := t_leu (t_nlt h38) u1
                refine ev_loc f_X12_isBusy (nx := 12) rfl rfl rfl rfl ?_
                refine ev_getI f_X12_isBusy (nx := 15) rfl (hI.wf.s rfl) rfl rfl rfl ?_
                refine ev_loc f_X12_isBusy (nx := 16) rfl rfl rfl rfl ?_
                refine ev_gvI f_X12_isBusy (nx := 19) (w := (gi 69 59)) rfl (hI.wf.s rfl) rfl rfl ((hC33.1 69 59 rfl).1.trans c5_0) rfl ?_
                refine ev_if f_X12_isBusy (t1 := 26) (t2 := 22) rfl rfl rfl (fun h47 => ?_) (fun h47 => ?_)
                · have r48 : (gi33 69 62).toInt ≤ (gi 69 59).toInt := Int32.le_iff_toInt_le.mp h47
                  have u49 : (gi33 69 62).toInt ≤ 301 := t_leu h47 u1
                  refine ev_ic f_X12_isBusy (nx := 27) (v := 0) rfl (by decide) rfl ?_
                  refine ev_retK1 f_X12_isBusy rfl rfl rfl ?_
                  refine ev_t f_X12_strikes (t1 := 77) (t2 := 88) rfl rfl rfl (by decide) ?_
                  refine ev_loc f_X12_strikes (nx := 78) rfl rfl rfl rfl ?_
                  refine ev_gvI f_X12_strikes (nx := 81) (w := (gi33 69 64)) rfl (hI.wf.s rfl) rfl rfl rfl rfl ?_
                  refine ev_loc f_X12_strikes (nx := 82) rfl rfl rfl rfl ?_
                  refine ev_if f_X12_strikes (t1 := 85) (t2 := 88) rfl rfl rfl (fun h50 => ?_) (fun h50 => ?_)
                  · have r51 : (gi33 69 64).toInt = y5_1.toInt := t_eqi h50
                    have u52 : (gi33 69 64).toInt ≤ 5 := t_equ h50 u13
                    refine ev_jmp f_X12_strikes (nx := 105) rfl rfl rfl ?_
                    refine ev_incR f_X12_strikes (nx := 108) (c := 1) (l := 1) (u := 6) rfl rfl (by decide) (by decide) l5_1 u13 rfl rfl (by decide) (by decide) rfl (fun z53 e53 l53 u53 => ?_)
                    refine ev_jmp f_X12_strikes (nx := 9) rfl rfl rfl ?_
                    refine ev_sub (lo := [(1, .int z53), (0, .ref 69)]) rfl (t_sc rfl (t_sc rfl t_sn)) ?_
                    exact ih5 _ (by omega) gi33 gl33 gr33 (z53) hI hX  (Int.le_trans (by decide : (0:Int) ≤ 1) l53) u53 ((hC33.1 69 59 rfl).1.trans c5_0) (fun P Z q hP hJ hZ hO h6 => (by
                                                            obtain ⟨Y, h1, h2, h3, h4, h5, h7, h8⟩ := j5_0 P Z q hP hJ hZ hO h6
                                                            have fX := t_F_X hXs5
                                                            have k90 : gi5 90 = gi 90 := t_F_nc fX rfl (by decide)
                                                            have k89 : gi5 89 = gi 89 := t_F_nc fX rfl (by decide)
                                                            have k70 : gi5 70 = gi 70 := t_F_nc fX rfl (by decide)
                                                            have k44 : (gi5 69 44).toInt = (gi 69 44).toInt := congrArg Int32.toInt (fX 69 44 (by decide) rfl).1
                                                            have k59 : (gi5 69 59).toInt = (gi 69 59).toInt := congrArg Int32.toInt (fX 69 59 (by decide) rfl).1
                                                            have k60 : (gi5 69 60).toInt = (gi 69 60).toInt := congrArg Int32.toInt (fX 69 60 (by decide) rfl).1
                                                            have k61 : (gi5 69 61).toInt = (gi 69 61).toInt := congrArg Int32.toInt (fX 69 61 (by decide) rfl).1
                                                            have k62 : (gi5 69 62).toInt = (gi 69 62).toInt := congrArg Int32.toInt (fX 69 62 (by decide) rfl).1
                                                            have hp0 : P 0 0 = ((t_S gi : Nat) : Int) := hP.1.1
                                                            have hts : t_S gi = (gi 69 44).toInt.toNat := rfl
                                                            have cy := t_clamp (i := y5_1) (by omega)
                                                            have hkn : y5_1.toNatClampNeg < (P 0 0).toNat := by omega
                                                            have hx : z53.toNatClampNeg = y5_1.toNatClampNeg + 1 := by have := t_clamp (i := z53) (by omega); omega
                                                            have h3b : s_skz P (gi 69 59).toInt ((P 0 0).toNat - z53.toNatClampNeg) (y5_1.toNatClampNeg + 1) (s_k1 P (gi 69 59).toInt Y y5_1.toNatClampNeg) = s_skz P (gi 69 59).toInt (P 0 0).toNat 0 Z := by rw [← h3, show (P 0 0).toNat - y5_1.toNatClampNeg = ((P 0 0).toNat - z53.toNatClampNeg) + 1 by omega]; rfl
                                                            obtain ⟨p1, p2, p3, p4⟩ := hP.2.1 y5_1.toNatClampNeg (by omega)
                                                            obtain ⟨a, b, c, d⟩ := h1.2 y5_1.toNatClampNeg hkn
                                                            have cw := t_clamp (i := w15) (by omega)
                                                            have hs : t_si gi5 y5_1.toNatClampNeg = w15.toNatClampNeg := by unfold t_si; rw [← e15]; omega
                                                            have hsi : t_si gi y5_1.toNatClampNeg = w15.toNatClampNeg := by rw [← hs]; unfold t_si; rw [k90]
                                                            rw [hs] at a
                                                            have hg : w16.toInt = (gi5 99 w15.toNatClampNeg).toInt := by rw [e16]
                                                            have hs4 : P 4 y5_1.toNatClampNeg = w22.toInt := by rw [p4]; unfold t_ss; rw [hsi]; rw [e22, show z21.toNatClampNeg = 56 + 5 * w15.toNatClampNeg from (by have := t_clamp (i := z21) (by omega); omega)]; rw [k70]
                                                            have hc1 : P 1 y5_1.toNatClampNeg = w28.toInt := by rw [p1]; unfold t_sa; rw [hsi, e28, k89]
                                                            have hq := q33 (P 0 0).toNat Y (by unfold t_S; omega) h1
                                                            obtain ⟨h1b, h2b⟩ := hq
                                                            have fc := t_F_X hC33
                                                            have r59 : (gi33 69 59).toInt = (gi 69 59).toInt := (congrArg Int32.toInt (fc 69 59 (by decide) rfl).1).trans k59
                                                            have r60 : (gi33 69 60).toInt = (gi 69 60).toInt := (congrArg Int32.toInt (fc 69 60 (by decide) rfl).1).trans k60
                                                            have r61 : (gi33 69 61).toInt = (gi 69 61).toInt := (congrArg Int32.toInt (fc 69 61 (by decide) rfl).1).trans k61
                                                            have r62 : (gi33 69 62).toInt = (gi 69 62).toInt := (congrArg Int32.toInt (fc 69 62 (by decide) rfl).1).trans k62
                                                            obtain ⟨⟨o1, o2⟩, o3⟩ := hO
                                                            rw [← h7] at o1 o2
                                                            rw [← h8] at o3
                                                            have hk1 : s_k1 P (gi 69 59).toInt Y y5_1.toNatClampNeg = Y := s_k1_at (by omega) (by by_cases hz : Y 1 = 0; exact hz; exact absurd (o3.mpr hz) (by omega)) (by omega)
                                                            rw [hk1] at h3b
                                                            rw [hx] at h3b
                                                            rw [hx]
                                                            exact ⟨Y, h1b, by rw [(hC33.1 69 67 rfl).1]; exact h2, h3b, by omega, fun j e1 e2 => h5 j (by omega) e2, h7, h8⟩)) rfl
                  · have r54 : (gi33 69 64).toInt ≠ y5_1.toInt := t_nei h50
                    refine ev_loc f_X12_strikes (nx := 89) rfl rfl rfl rfl ?_
                    refine ev_getR f_X12_strikes (nx := 92) rfl (hI.wf.s rfl) rfl rfl (hI.wf.r rfl) rfl rfl ?_
                    refine ev_loc f_X12_strikes (nx := 93) rfl rfl rfl rfl ?_
                    refine ev_ic f_X12_strikes (nx := 94) (v := 1) rfl (by decide) rfl ?_
                    refine ev_zastE f_X12_strikes (nx := 95) rfl (hI.wf.s rfl) l15 (by decide) u15 (by decide) rfl (fun x l u => hI.astL (hI.wf.s rfl) (by decide +kernel : t_abw 99 0 5 0 1 = true) (t_cl1 l15 (by decide)) (t_cl2 l15 u15 (by decide) (by decide)) l u rfl) (fun x => hX.upI (t_inA_ok rfl)) (fun g55 x55 e55 ex55 hI hX => ?_)
                    refine ev_loc f_X12_strikes (nx := 96) rfl rfl rfl rfl ?_
                    refine ev_alu f_X12_strikes (nx := 97) rfl rfl rfl rfl ?_
                    refine ev_getI f_X12_strikes (nx := 100) rfl (hI.wf.s rfl) rfl rfl rfl ?_
                    refine ev_ic f_X12_strikes (nx := 101) (v := 1) rfl (by decide) rfl ?_
                    refine ev_anyIE f_X12_strikes (nx := 102) rfl rfl rfl rfl (fun z56 e56 => ?_)
                    refine ev_putIT f_X12_strikes (nx := 105) rfl (hI.wf.s rfl) rfl rfl rfl (hI.put0 (hI.wf.s rfl) rfl rfl) (hX.upI rfl) (fun g57 e57 hI hX => ?_)
                    refine ev_incR f_X12_strikes (nx := 108) (c := 1) (l := 1) (u := 6) rfl rfl (by decide) (by decide) l5_1 u13 rfl rfl (by decide) (by decide) rfl (fun z58 e58 l58 u58 => ?_)
                    refine ev_jmp f_X12_strikes (nx := 9) rfl rfl rfl ?_
                    refine ev_sub (lo := [(1, .int z58), (0, .ref 69)]) rfl (t_sc rfl (t_sc rfl t_sn)) ?_
                    exact ih5 _ (by omega) g57 gl33 gr33 (z58) hI hX  (Int.le_trans (by decide : (0:Int) ≤ 1) l58) u58 ((by rw [e57]; exact x_up2_off (Or.inr (by decide)) : g57 69 59 = g55 69 59).trans ((by rw [e55]; exact x_up2_off (Or.inl (by decide)) : g55 69 59 = gi33 69 59).trans ((hC33.1 69 59 rfl).1.trans c5_0))) (fun P Z q hP hJ hZ hO h6 => (by
                                                            obtain ⟨Y, h1, h2, h3, h4, h5, h7, h8⟩ := j5_0 P Z q hP hJ hZ hO h6
                                                            have fX := t_F_X hXs5
                                                            have k90 : gi5 90 = gi 90 := t_F_nc fX rfl (by decide)
                                                            have k89 : gi5 89 = gi 89 := t_F_nc fX rfl (by decide)
                                                            have k70 : gi5 70 = gi 70 := t_F_nc fX rfl (by decide)
                                                            have k44 : (gi5 69 44).toInt = (gi 69 44).toInt := congrArg Int32.toInt (fX 69 44 (by decide) rfl).1
                                                            have k59 : (gi5 69 59).toInt = (gi 69 59).toInt := congrArg Int32.toInt (fX 69 59 (by decide) rfl).1
                                                            have k60 : (gi5 69 60).toInt = (gi 69 60).toInt := congrArg Int32.toInt (fX 69 60 (by decide) rfl).1
                                                            have k61 : (gi5 69 61).toInt = (gi 69 61).toInt := congrArg Int32.toInt (fX 69 61 (by decide) rfl).1
                                                            have k62 : (gi5 69 62).toInt = (gi 69 62).toInt := congrArg Int32.toInt (fX 69 62 (by decide) rfl).1
                                                            have hp0 : P 0 0 = ((t_S gi : Nat) : Int) := hP.1.1
                                                            have hts : t_S gi = (gi 69 44).toInt.toNat := rfl
                                                            have cy := t_clamp (i := y5_1) (by omega)
                                                            have hkn : y5_1.toNatClampNeg < (P 0 0).toNat := by omega
                                                            have hx : z58.toNatClampNeg = y5_1.toNatClampNeg + 1 := by have := t_clamp (i := z58) (by omega); omega
                                                            have h3b : s_skz P (gi 69 59).toInt ((P 0 0).toNat - z58.toNatClampNeg) (y5_1.toNatClampNeg + 1) (s_k1 P (gi 69 59).toInt Y y5_1.toNatClampNeg) = s_skz P (gi 69 59).toInt (P 0 0).toNat 0 Z := by rw [← h3, show (P 0 0).toNat - y5_1.toNatClampNeg = ((P 0 0).toNat - z58.toNatClampNeg) + 1 by omega]; rfl
                                                            obtain ⟨p1, p2, p3, p4⟩ := hP.2.1 y5_1.toNatClampNeg (by omega)
                                                            obtain ⟨a, b, c, d⟩ := h1.2 y5_1.toNatClampNeg hkn
                                                            have cw := t_clamp (i := w15) (by omega)
                                                            have hs : t_si gi5 y5_1.toNatClampNeg = w15.toNatClampNeg := by unfold t_si; rw [← e15]; omega
                                                            have hsi : t_si gi y5_1.toNatClampNeg = w15.toNatClampNeg := by rw [← hs]; unfold t_si; rw [k90]
                                                            rw [hs] at a
                                                            have hg : w16.toInt = (gi5 99 w15.toNatClampNeg).toInt := by rw [e16]
                                                            have hs4 : P 4 y5_1.toNatClampNeg = w22.toInt := by rw [p4]; unfold t_ss; rw [hsi]; rw [e22, show z21.toNatClampNeg = 56 + 5 * w15.toNatClampNeg from (by have := t_clamp (i := z21) (by omega); omega)]; rw [k70]
                                                            have hc1 : P 1 y5_1.toNatClampNeg = w28.toInt := by rw [p1]; unfold t_sa; rw [hsi, e28, k89]
                                                            have hq := q33 (P 0 0).toNat Y (by unfold t_S; omega) h1
                                                            obtain ⟨h1b, h2b⟩ := hq
                                                            have fc := t_F_X hC33
                                                            have r59 : (gi33 69 59).toInt = (gi 69 59).toInt := (congrArg Int32.toInt (fc 69 59 (by decide) rfl).1).trans k59
                                                            have r60 : (gi33 69 60).toInt = (gi 69 60).toInt := (congrArg Int32.toInt (fc 69 60 (by decide) rfl).1).trans k60
                                                            have r61 : (gi33 69 61).toInt = (gi 69 61).toInt := (congrArg Int32.toInt (fc 69 61 (by decide) rfl).1).trans k61
                                                            have r62 : (gi33 69 62).toInt = (gi 69 62).toInt := (congrArg Int32.toInt (fc 69 62 (by decide) rfl).1).trans k62
                                                            obtain ⟨⟨o1, o2⟩, o3⟩ := hO
                                                            rw [← h7] at o1 o2
                                                            rw [← h8] at o3
                                                            have hz0 : Y (10 + y5_1.toNatClampNeg) = 0 := by have h9 := h5 y5_1.toNatClampNeg (by omega) hkn; have h10 : ¬ Y (10 + y5_1.toNatClampNeg) = 2 := (fun hh => by rw [if_pos hh] at a; omega); omega
                                                            have hna : ¬ (Y 0 = 1 ∧ Y 1 = 0 ∧ s_f1 Y (P 0 0).toNat 0 = y5_1.toNatClampNeg) := fun hh => by have q1 := hh.1; have q2 := hh.2.1; have q3 := hh.2.2; have q4 : ¬ ((gi 69 59).toInt < (gi 69 61).toInt ∨ (gi 69 59).toInt < (gi 69 62).toInt) := fun h9 => o3.mp h9 q2; omega
                                                            have hk1 := s_k1_y (P := P) (m := (gi 69 59).toInt) hna ⟨by omega, by omega, hz0⟩
                                                            rw [hk1] at h3b
                                                            rw [hx] at h3b
                                                            rw [hx]
                                                            have k99 : ∀ j, g57 99 j = if j = t_si gi33 y5_1.toNatClampNeg then 1 else gi33 99 j := fun j => by rw [e57, x_up2_off (Or.inl (by decide)), e55]; have e9 : t_si gi33 y5_1.toNatClampNeg = w15.toNatClampNeg := (by unfold t_si; rw [t_F_nc fc rfl (by decide)]; exact hs); rw [e9]; by_cases hj : j = w15.toNatClampNeg; (rw [if_pos hj, hj, x_up2_at]; first | rfl | exact ex55); (rw [if_neg hj, x_up2_off (Or.inr hj)])
                                                            have hJc : t_IJ (P 0 0).toNat gi33 := fun i j a1 a2 a3 => hJ i j a1 a2 (by unfold t_si at a3 ⊢; rw [t_F_nc fc rfl (by decide), k90] at a3; exact a3)
                                                            have hst := h1b.st (g1 := g57) hJc hkn hz0 (by rw [e57, x_up2_off (Or.inr (by decide)), e55, x_up2_off (Or.inl (by decide))]) (funext fun j => by rw [e57, x_up2_off (Or.inl (by decide)), e55, x_up2_off (Or.inl (by decide))]) k99
                                                            refine ⟨_, hst, ?_, h3b, by omega, fun j e1 e2 => ?_, ?_, ?_⟩
                                                            · rw [e57, x_up2_at, s_z_at]; exact t_oi_add e56 (by first | (rw [e55, x_up2_off (Or.inl (by decide)), (hC33.1 69 67 rfl).1]; exact h2) | (rw [(hC33.1 69 67 rfl).1]; exact h2)) (t_oi_of rfl)
                                                            · rw [s_z_ne (by omega), s_z_ne (by omega)]; exact h5 j (by omega) e2
                                                            · rw [s_z_ne (by decide), s_z_ne (by omega)]; exact h7
                                                            · rw [s_z_ne (by decide), s_z_ne (by omega)]; exact h8)) rfl
                · have r59 : (gi 69 59).toInt < (gi33 69 62).toInt := Int32.lt_iff_toInt_lt.mp (t_nle h47)
                  have l60 : 1 ≤ (gi33 69 62).toInt := t_ltl (t_nle h47) l1 rfl
                  refine ev_ic f_X12_isBusy (nx := 23) (v := 1) rfl (by decide) rfl ?_
                  refine ev_jmp f_X12_isBusy (nx := 27) rfl rfl rfl ?_
                  refine ev_retK1 f_X12_isBusy rfl rfl rfl ?_
                  refine ev_f f_X12_strikes (t1 := 77) (t2 := 88) rfl rfl rfl (by decide) ?_
                  refine ev_loc f_X12_strikes (nx := 89) rfl rfl rfl rfl ?_
                  refine ev_getR f_X12_strikes (nx := 92) rfl (hI.wf.s rfl) rfl rfl (hI.wf.r rfl) rfl rfl ?_
                  refine ev_loc f_X12_strikes (nx := 93) rfl rfl rfl rfl ?_
                  refine ev_ic f_X12_strikes (nx := 94) (v := 1) rfl (by decide) rfl ?_
                  refine ev_zastE f_X12_strikes (nx := 95) rfl (hI.wf.s rfl) l15 (by decide) u15 (by decide) rfl (fun x l u => hI.astL (hI.wf.s rfl) (by decide +kernel : t_abw 99 0 5 0 1 = true) (t_cl1 l15 (by decide)) (t_cl2 l15 u15 (by decide) (by decide)) l u rfl) (fun x => hX.upI (t_inA_ok rfl)) (fun g61 x61 e61 ex61 hI hX => ?_)
                  refine ev_loc f_X12_strikes (nx := 96) rfl rfl rfl rfl ?_
                  refine ev_alu f_X12_strikes (nx := 97) rfl rfl rfl rfl ?_
                  refine ev_getI f_X12_strikes (nx := 100) rfl (hI.wf.s rfl) rfl rfl rfl ?_
                  refine ev_ic f_X12_strikes (nx := 101) (v := 1) rfl (by decide) rfl ?_
                  refine ev_anyIE f_X12_strikes (nx := 102) rfl rfl rfl rfl (fun z62 e62 => ?_)
                  refine ev_putIT f_X12_strikes (nx := 105) rfl (hI.wf.s rfl) rfl rfl rfl (hI.put0 (hI.wf.s rfl) rfl rfl) (hX.upI rfl) (fun g63 e63 hI hX => ?_)
                  refine ev_incR f_X12_strikes (nx := 108) (c := 1) (l := 1) (u := 6) rfl rfl (by decide) (by decide) l5_1 u13 rfl rfl (by decide) (by decide) rfl (fun z64 e64 l64 u64 => ?_)
                  refine ev_jmp f_X12_strikes (nx := 9) rfl rfl rfl ?_
                  refine ev_sub (lo := [(1, .int z64), (0, .ref 69)]) rfl (t_sc rfl (t_sc rfl t_sn)) ?_
                  exact ih5 _ (by omega) g63 gl33 gr33 (z64) hI hX  (Int.le_trans (by decide : (0:Int) ≤ 1) l64) u64 ((by rw [e63]; exact x_up2_off (Or.inr (by decide)) : g63 69 59 = g61 69 59).trans ((by rw [e61]; exact x_up2_off (Or.inl (by decide)) : g61 69 59 = gi33 69 59).trans ((hC33.1 69 59 rfl).1.trans c5_0))) (fun P Z q hP hJ hZ hO h6 => (by
                                                            obtain ⟨Y, h1, h2, h3, h4, h5, h7, h8⟩ := j5_0 P Z q hP hJ hZ hO h6
                                                            have fX := t_F_X hXs5
                                                            have k90 : gi5 90 = gi 90 := t_F_nc fX rfl (by decide)
                                                            have k89 : gi5 89 = gi 89 := t_F_nc fX rfl (by decide)
                                                            have k70 : gi5 70 = gi 70 := t_F_nc fX rfl (by decide)
                                                            have k44 : (gi5 69 44).toInt = (gi 69 44).toInt := congrArg Int32.toInt (fX 69 44 (by decide) rfl).1
                                                            have k59 : (gi5 69 59).toInt = (gi 69 59).toInt := congrArg Int32.toInt (fX 69 59 (by decide) rfl).1
                                                            have k60 : (gi5 69 60).toInt = (gi 69 60).toInt := congrArg Int32.toInt (fX 69 60 (by decide) rfl).1
                                                            have k61 : (gi5 69 61).toInt = (gi 69 61).toInt := congrArg Int32.toInt (fX 69 61 (by decide) rfl).1
                                                            have k62 : (gi5 69 62).toInt = (gi 69 62).toInt := congrArg Int32.toInt (fX 69 62 (by decide) rfl).1
                                                            have hp0 : P 0 0 = ((t_S gi : Nat) : Int) := hP.1.1
                                                            have hts : t_S gi = (gi 69 44).toInt.toNat := rfl
                                                            have cy := t_clamp (i := y5_1) (by omega)
                                                            have hkn : y5_1.toNatClampNeg < (P 0 0).toNat := by omega
                                                            have hx : z64.toNatClampNeg = y5_1.toNatClampNeg + 1 := by have := t_clamp (i := z64) (by omega); omega
                                                            have h3b : s_skz P (gi 69 59).toInt ((P 0 0).toNat - z64.toNatClampNeg) (y5_1.toNatClampNeg + 1) (s_k1 P (gi 69 59).toInt Y y5_1.toNatClampNeg) = s_skz P (gi 69 59).toInt (P 0 0).toNat 0 Z := by rw [← h3, show (P 0 0).toNat - y5_1.toNatClampNeg = ((P 0 0).toNat - z64.toNatClampNeg) + 1 by omega]; rfl
                                                            obtain ⟨p1, p2, p3, p4⟩ := hP.2.1 y5_1.toNatClampNeg (by omega)
                                                            obtain ⟨a, b, c, d⟩ := h1.2 y5_1.toNatClampNeg hkn
                                                            have cw := t_clamp (i := w15) (by omega)
                                                            have hs : t_si gi5 y5_1.toNatClampNeg = w15.toNatClampNeg := by unfold t_si; rw [← e15]; omega
                                                            have hsi : t_si gi y5_1.toNatClampNeg = w15.toNatClampNeg := by rw [← hs]; unfold t_si; rw [k90]
                                                            rw [hs] at a
                                                            have hg : w16.toInt = (gi5 99 w15.toNatClampNeg).toInt := by rw [e16]
                                                            have hs4 : P 4 y5_1.toNatClampNeg = w22.toInt := by rw [p4]; unfold t_ss; rw [hsi]; rw [e22, show z21.toNatClampNeg = 56 + 5 * w15.toNatClampNeg from (by have := t_clamp (i := z21) (by omega); omega)]; rw [k70]
                                                            have hc1 : P 1 y5_1.toNatClampNeg = w28.toInt := by rw [p1]; unfold t_sa; rw [hsi, e28, k89]
                                                            have hq := q33 (P 0 0).toNat Y (by unfold t_S; omega) h1
                                                            obtain ⟨h1b, h2b⟩ := hq
                                                            have fc := t_F_X hC33
                                                            have r59 : (gi33 69 59).toInt = (gi 69 59).toInt := (congrArg Int32.toInt (fc 69 59 (by decide) rfl).1).trans k59
                                                            have r60 : (gi33 69 60).toInt = (gi 69 60).toInt := (congrArg Int32.toInt (fc 69 60 (by decide) rfl).1).trans k60
                                                            have r61 : (gi33 69 61).toInt = (gi 69 61).toInt := (congrArg Int32.toInt (fc 69 61 (by decide) rfl).1).trans k61
                                                            have r62 : (gi33 69 62).toInt = (gi 69 62).toInt := (congrArg Int32.toInt (fc 69 62 (by decide) rfl).1).trans k62
                                                            obtain ⟨⟨o1, o2⟩, o3⟩ := hO
                                                            rw [← h7] at o1 o2
                                                            rw [← h8] at o3
                                                            have hz0 : Y (10 + y5_1.toNatClampNeg) = 0 := by have h9 := h5 y5_1.toNatClampNeg (by omega) hkn; have h10 : ¬ Y (10 + y5_1.toNatClampNeg) = 2 := (fun hh => by rw [if_pos hh] at a; omega); omega
                                                            have hna : ¬ (Y 0 = 1 ∧ Y 1 = 0 ∧ s_f1 Y (P 0 0).toNat 0 = y5_1.toNatClampNeg) := fun hh => by have q1 := hh.1; have q2 := hh.2.1; have q3 := hh.2.2; have q4 : ¬ ((gi 69 59).toInt < (gi 69 61).toInt ∨ (gi 69 59).toInt < (gi 69 62).toInt) := fun h9 => o3.mp h9 q2; omega
                                                            have hk1 := s_k1_y (P := P) (m := (gi 69 59).toInt) hna ⟨by omega, by omega, hz0⟩
                                                            rw [hk1] at h3b
                                                            rw [hx] at h3b
                                                            rw [hx]
                                                            have k99 : ∀ j, g63 99 j = if j = t_si gi33 y5_1.toNatClampNeg then 1 else gi33 99 j := fun j => by rw [e63, x_up2_off (Or.inl (by decide)), e61]; have e9 : t_si gi33 y5_1.toNatClampNeg = w15.toNatClampNeg := (by unfold t_si; rw [t_F_nc fc rfl (by decide)]; exact hs); rw [e9]; by_cases hj : j = w15.toNatClampNeg; (rw [if_pos hj, hj, x_up2_at]; first | rfl | exact ex61); (rw [if_neg hj, x_up2_off (Or.inr hj)])
                                                            have hJc : t_IJ (P 0 0).toNat gi33 := fun i j a1 a2 a3 => hJ i j a1 a2 (by unfold t_si at a3 ⊢; rw [t_F_nc fc rfl (by decide), k90] at a3; exact a3)
                                                            have hst := h1b.st (g1 := g63) hJc hkn hz0 (by rw [e63, x_up2_off (Or.inr (by decide)), e61, x_up2_off (Or.inl (by decide))]) (funext fun j => by rw [e63, x_up2_off (Or.inl (by decide)), e61, x_up2_off (Or.inl (by decide))]) k99
                                                            refine ⟨_, hst, ?_, h3b, by omega, fun j e1 e2 => ?_, ?_, ?_⟩
                                                            · rw [e63, x_up2_at, s_z_at]; exact t_oi_add e62 (by first | (rw [e61, x_up2_off (Or.inl (by decide)), (hC33.1 69 67 rfl).1]; exact h2) | (rw [(hC33.1 69 67 rfl).1]; exact h2)) (t_oi_of rfl)
                                                            · rw [s_z_ne (by omega), s_z_ne (by omega)]; exact h5 j (by omega) e2
                                                            · rw [s_z_ne (by decide), s_z_ne (by omega)]; exact h7
                                                            · rw [s_z_ne (by decide), s_z_ne (by omega)]; exact h8)) rfl
            · have r65 : (gi33 69 60).toInt ≠ 1 := fun e => h35 (Int32.toInt_inj.mp (e.trans (by decide : (1:Int) = (1 : Int32).toInt)))
              refine ev_loc f_X12_strikes (nx := 89) rfl rfl rfl rfl ?_
              refine ev_getR f_X12_strikes (nx := 92) rfl (hI.wf.s rfl) rfl rfl (hI.wf.r rfl) rfl rfl ?_
              refine ev_loc f_X12_strikes (nx := 93) rfl rfl rfl rfl ?_
              refine ev_ic f_X12_strikes (nx := 94) (v := 1) rfl (by decide) rfl ?_
              refine ev_zastE f_X12_strikes (nx := 95) rfl (hI.wf.s rfl) l15 (by decide) u15 (by decide) rfl (fun x l u => hI.astL (hI.wf.s rfl) (by decide +kernel : t_abw 99 0 5 0 1 = true) (t_cl1 l15 (by decide)) (t_cl2 l15 u15 (by decide) (by decide)) l u rfl) (fun x => hX.upI (t_inA_ok rfl)) (fun g66 x66 e66 ex66 hI hX => ?_)
              refine ev_loc f_X12_strikes (nx := 96) rfl rfl rfl rfl ?_
              refine ev_alu f_X12_strikes (nx := 97) rfl rfl rfl rfl ?_
              refine ev_getI f_X12_strikes (nx := 100) rfl (hI.wf.s rfl) rfl rfl rfl ?_
              refine ev_ic f_X12_strikes (nx := 101) (v := 1) rfl (by decide) rfl ?_
              refine ev_anyIE f_X12_strikes (nx := 102) rfl rfl rfl rfl (fun z67 e67 => ?_)
              refine ev_putIT f_X12_strikes (nx := 105) rfl (hI.wf.s rfl) rfl rfl rfl (hI.put0 (hI.wf.s rfl) rfl rfl) (hX.upI rfl) (fun g68 e68 hI hX => ?_)
              refine ev_incR f_X12_strikes (nx := 108) (c := 1) (l := 1) (u := 6) rfl rfl (by decide) (by decide) l5_1 u13 rfl rfl (by decide) (by decide) rfl (fun z69 e69 l69 u69 => ?_)
              refine ev_jmp f_X12_strikes (nx := 9) rfl rfl rfl ?_
              refine ev_sub (lo := [(1, .int z69), (0, .ref 69)]) rfl (t_sc rfl (t_sc rfl t_sn)) ?_
              exact ih5 _ (by omega) g68 gl33 gr33 (z69) hI hX  (Int.le_trans (by decide : (0:Int) ≤ 1) l69) u69 ((by rw [e68]; exact x_up2_off (Or.inr (by decide)) : g68 69 59 = g66 69 59).trans ((by rw [e66]; exact x_up2_off (Or.inl (by decide)) : g66 69 59 = gi33 69 59).trans ((hC33.1 69 59 rfl).1.trans c5_0))) (fun P Z q hP hJ hZ hO h6 => (by
                                                            obtain ⟨Y, h1, h2, h3, h4, h5, h7, h8⟩ := j5_0 P Z q hP hJ hZ hO h6
                                                            have fX := t_F_X hXs5
                                                            have k90 : gi5 90 = gi 90 := t_F_nc fX rfl (by decide)
                                                            have k89 : gi5 89 = gi 89 := t_F_nc fX rfl (by decide)
                                                            have k70 : gi5 70 = gi 70 := t_F_nc fX rfl (by decide)
                                                            have k44 : (gi5 69 44).toInt = (gi 69 44).toInt := congrArg Int32.toInt (fX 69 44 (by decide) rfl).1
                                                            have k59 : (gi5 69 59).toInt = (gi 69 59).toInt := congrArg Int32.toInt (fX 69 59 (by decide) rfl).1
                                                            have k60 : (gi5 69 60).toInt = (gi 69 60).toInt := congrArg Int32.toInt (fX 69 60 (by decide) rfl).1
                                                            have k61 : (gi5 69 61).toInt = (gi 69 61).toInt := congrArg Int32.toInt (fX 69 61 (by decide) rfl).1
                                                            have k62 : (gi5 69 62).toInt = (gi 69 62).toInt := congrArg Int32.toInt (fX 69 62 (by decide) rfl).1
                                                            have hp0 : P 0 0 = ((t_S gi : Nat) : Int) := hP.1.1
                                                            have hts : t_S gi = (gi 69 44).toInt.toNat := rfl
                                                            have cy := t_clamp (i := y5_1) (by omega)
                                                            have hkn : y5_1.toNatClampNeg < (P 0 0).toNat := by omega
                                                            have hx : z69.toNatClampNeg = y5_1.toNatClampNeg + 1 := by have := t_clamp (i := z69) (by omega); omega
                                                            have h3b : s_skz P (gi 69 59).toInt ((P 0 0).toNat - z69.toNatClampNeg) (y5_1.toNatClampNeg + 1) (s_k1 P (gi 69 59).toInt Y y5_1.toNatClampNeg) = s_skz P (gi 69 59).toInt (P 0 0).toNat 0 Z := by rw [← h3, show (P 0 0).toNat - y5_1.toNatClampNeg = ((P 0 0).toNat - z69.toNatClampNeg) + 1 by omega]; rfl
                                                            obtain ⟨p1, p2, p3, p4⟩ := hP.2.1 y5_1.toNatClampNeg (by omega)
                                                            obtain ⟨a, b, c, d⟩ := h1.2 y5_1.toNatClampNeg hkn
                                                            have cw := t_clamp (i := w15) (by omega)
                                                            have hs : t_si gi5 y5_1.toNatClampNeg = w15.toNatClampNeg := by unfold t_si; rw [← e15]; omega
                                                            have hsi : t_si gi y5_1.toNatClampNeg = w15.toNatClampNeg := by rw [← hs]; unfold t_si; rw [k90]
                                                            rw [hs] at a
                                                            have hg : w16.toInt = (gi5 99 w15.toNatClampNeg).toInt := by rw [e16]
                                                            have hs4 : P 4 y5_1.toNatClampNeg = w22.toInt := by rw [p4]; unfold t_ss; rw [hsi]; rw [e22, show z21.toNatClampNeg = 56 + 5 * w15.toNatClampNeg from (by have := t_clamp (i := z21) (by omega); omega)]; rw [k70]
                                                            have hc1 : P 1 y5_1.toNatClampNeg = w28.toInt := by rw [p1]; unfold t_sa; rw [hsi, e28, k89]
                                                            have hq := q33 (P 0 0).toNat Y (by unfold t_S; omega) h1
                                                            obtain ⟨h1b, h2b⟩ := hq
                                                            have fc := t_F_X hC33
                                                            have r59 : (gi33 69 59).toInt = (gi 69 59).toInt := (congrArg Int32.toInt (fc 69 59 (by decide) rfl).1).trans k59
                                                            have r60 : (gi33 69 60).toInt = (gi 69 60).toInt := (congrArg Int32.toInt (fc 69 60 (by decide) rfl).1).trans k60
                                                            have r61 : (gi33 69 61).toInt = (gi 69 61).toInt := (congrArg Int32.toInt (fc 69 61 (by decide) rfl).1).trans k61
                                                            have r62 : (gi33 69 62).toInt = (gi 69 62).toInt := (congrArg Int32.toInt (fc 69 62 (by decide) rfl).1).trans k62
                                                            obtain ⟨⟨o1, o2⟩, o3⟩ := hO
                                                            rw [← h7] at o1 o2
                                                            rw [← h8] at o3
                                                            have hz0 : Y (10 + y5_1.toNatClampNeg) = 0 := by have h9 := h5 y5_1.toNatClampNeg (by omega) hkn; have h10 : ¬ Y (10 + y5_1.toNatClampNeg) = 2 := (fun hh => by rw [if_pos hh] at a; omega); omega
                                                            have hna : ¬ (Y 0 = 1 ∧ Y 1 = 0 ∧ s_f1 Y (P 0 0).toNat 0 = y5_1.toNatClampNeg) := fun hh => by have q1 := hh.1; have q2 := hh.2.1; have q3 := hh.2.2; have q4 : ¬ ((gi 69 59).toInt < (gi 69 61).toInt ∨ (gi 69 59).toInt < (gi 69 62).toInt) := fun h9 => o3.mp h9 q2; omega
                                                            have hk1 := s_k1_y (P := P) (m := (gi 69 59).toInt) hna ⟨by omega, by omega, hz0⟩
                                                            rw [hk1] at h3b
                                                            rw [hx] at h3b
                                                            rw [hx]
                                                            have k99 : ∀ j, g68 99 j = if j = t_si gi33 y5_1.toNatClampNeg then 1 else gi33 99 j := fun j => by rw [e68, x_up2_off (Or.inl (by decide)), e66]; have e9 : t_si gi33 y5_1.toNatClampNeg = w15.toNatClampNeg := (by unfold t_si; rw [t_F_nc fc rfl (by decide)]; exact hs); rw [e9]; by_cases hj : j = w15.toNatClampNeg; (rw [if_pos hj, hj, x_up2_at]; first | rfl | exact ex66); (rw [if_neg hj, x_up2_off (Or.inr hj)])
                                                            have hJc : t_IJ (P 0 0).toNat gi33 := fun i j a1 a2 a3 => hJ i j a1 a2 (by unfold t_si at a3 ⊢; rw [t_F_nc fc rfl (by decide), k90] at a3; exact a3)
                                                            have hst := h1b.st (g1 := g68) hJc hkn hz0 (by rw [e68, x_up2_off (Or.inr (by decide)), e66, x_up2_off (Or.inl (by decide))]) (funext fun j => by rw [e68, x_up2_off (Or.inl (by decide)), e66, x_up2_off (Or.inl (by decide))]) k99
                                                            refine ⟨_, hst, ?_, h3b, by omega, fun j e1 e2 => ?_, ?_, ?_⟩
                                                            · rw [e68, x_up2_at, s_z_at]; exact t_oi_add e67 (by first | (rw [e66, x_up2_off (Or.inl (by decide)), (hC33.1 69 67 rfl).1]; exact h2) | (rw [(hC33.1 69 67 rfl).1]; exact h2)) (t_oi_of rfl)
                                                            · rw [s_z_ne (by omega), s_z_ne (by omega)]; exact h5 j (by omega) e2
                                                            · rw [s_z_ne (by decide), s_z_ne (by omega)]; exact h7
                                                            · rw [s_z_ne (by decide), s_z_ne (by omega)]; exact h8)) rfl
          · have r70 : w28.toInt ≠ (gi 69 59).toInt := t_nei h29
            refine ev_jmp f_X12_strikes (nx := 105) rfl rfl rfl ?_
            refine ev_incR f_X12_strikes (nx := 108) (c := 1) (l := 1) (u := 6) rfl rfl (by decide) (by decide) l5_1 u13 rfl rfl (by decide) (by decide) rfl (fun z71 e71 l71 u71 => ?_)
            refine ev_jmp f_X12_strikes (nx := 9) rfl rfl rfl ?_
            refine ev_sub (lo := [(1, .int z71), (0, .ref 69)]) rfl (t_sc rfl (t_sc rfl t_sn)) ?_
            exact ih5 _ (by omega) gi5 gl5 gr5 (z71) hI hX  (Int.le_trans (by decide : (0:Int) ≤ 1) l71) u71 c5_0 (fun P Z q hP hJ hZ hO h6 => (by
                                                            obtain ⟨Y, h1, h2, h3, h4, h5, h7, h8⟩ := j5_0 P Z q hP hJ hZ hO h6
                                                            have fX := t_F_X hXs5
                                                            have k90 : gi5 90 = gi 90 := t_F_nc fX rfl (by decide)
                                                            have k89 : gi5 89 = gi 89 := t_F_nc fX rfl (by decide)
                                                            have k70 : gi5 70 = gi 70 := t_F_nc fX rfl (by decide)
                                                            have k44 : (gi5 69 44).toInt = (gi 69 44).toInt := congrArg Int32.toInt (fX 69 44 (by decide) rfl).1
                                                            have k59 : (gi5 69 59).toInt = (gi 69 59).toInt := congrArg Int32.toInt (fX 69 59 (by decide) rfl).1
                                                            have k60 : (gi5 69 60).toInt = (gi 69 60).toInt := congrArg Int32.toInt (fX 69 60 (by decide) rfl).1
                                                            have k61 : (gi5 69 61).toInt = (gi 69 61).toInt := congrArg Int32.toInt (fX 69 61 (by decide) rfl).1
                                                            have k62 : (gi5 69 62).toInt = (gi 69 62).toInt := congrArg Int32.toInt (fX 69 62 (by decide) rfl).1
                                                            have hp0 : P 0 0 = ((t_S gi : Nat) : Int) := hP.1.1
                                                            have hts : t_S gi = (gi 69 44).toInt.toNat := rfl
                                                            have cy := t_clamp (i := y5_1) (by omega)
                                                            have hkn : y5_1.toNatClampNeg < (P 0 0).toNat := by omega
                                                            have hx : z71.toNatClampNeg = y5_1.toNatClampNeg + 1 := by have := t_clamp (i := z71) (by omega); omega
                                                            have h3b : s_skz P (gi 69 59).toInt ((P 0 0).toNat - z71.toNatClampNeg) (y5_1.toNatClampNeg + 1) (s_k1 P (gi 69 59).toInt Y y5_1.toNatClampNeg) = s_skz P (gi 69 59).toInt (P 0 0).toNat 0 Z := by rw [← h3, show (P 0 0).toNat - y5_1.toNatClampNeg = ((P 0 0).toNat - z71.toNatClampNeg) + 1 by omega]; rfl
                                                            obtain ⟨p1, p2, p3, p4⟩ := hP.2.1 y5_1.toNatClampNeg (by omega)
                                                            obtain ⟨a, b, c, d⟩ := h1.2 y5_1.toNatClampNeg hkn
                                                            have cw := t_clamp (i := w15) (by omega)
                                                            have hs : t_si gi5 y5_1.toNatClampNeg = w15.toNatClampNeg := by unfold t_si; rw [← e15]; omega
                                                            have hsi : t_si gi y5_1.toNatClampNeg = w15.toNatClampNeg := by rw [← hs]; unfold t_si; rw [k90]
                                                            rw [hs] at a
                                                            have hg : w16.toInt = (gi5 99 w15.toNatClampNeg).toInt := by rw [e16]
                                                            have hs4 : P 4 y5_1.toNatClampNeg = w22.toInt := by rw [p4]; unfold t_ss; rw [hsi]; rw [e22, show z21.toNatClampNeg = 56 + 5 * w15.toNatClampNeg from (by have := t_clamp (i := z21) (by omega); omega)]; rw [k70]
                                                            have hc1 : P 1 y5_1.toNatClampNeg = w28.toInt := by rw [p1]; unfold t_sa; rw [hsi, e28, k89]
                                                            have hk1 : s_k1 P (gi 69 59).toInt Y y5_1.toNatClampNeg = Y := s_k1_no (fun hh => by have h9 := hh.2.1; omega)
                                                            rw [hk1] at h3b
                                                            rw [hx] at h3b
                                                            rw [hx]
                                                            exact ⟨Y, h1, h2, h3b, by omega, fun j e1 e2 => h5 j (by omega) e2, h7, h8⟩)) rfl
      · have r72 : w16.toInt ≠ 0 := fun e => h17 (Int32.toInt_inj.mp (e.trans (by decide : (0:Int) = (0 : Int32).toInt)))
        have l73 : 1 ≤ w16.toInt := t_nel h17 l16 rfl rfl
        refine ev_incR f_X12_strikes (nx := 108) (c := 1) (l := 1) (u := 6) rfl rfl (by decide) (by decide) l5_1 u13 rfl rfl (by decide) (by decide) rfl (fun z74 e74 l74 u74 => ?_)
        refine ev_jmp f_X12_strikes (nx := 9) rfl rfl rfl ?_
        refine ev_sub (lo := [(1, .int z74), (0, .ref 69)]) rfl (t_sc rfl (t_sc rfl t_sn)) ?_
        exact ih5 _ (by omega) gi5 gl5 gr5 (z74) hI hX  (Int.le_trans (by decide : (0:Int) ≤ 1) l74) u74 c5_0 (fun P Z q hP hJ hZ hO h6 => (by
                                                            obtain ⟨Y, h1, h2, h3, h4, h5, h7, h8⟩ := j5_0 P Z q hP hJ hZ hO h6
                                                            have fX := t_F_X hXs5
                                                            have k90 : gi5 90 = gi 90 := t_F_nc fX rfl (by decide)
                                                            have k89 : gi5 89 = gi 89 := t_F_nc fX rfl (by decide)
                                                            have k70 : gi5 70 = gi 70 := t_F_nc fX rfl (by decide)
                                                            have k44 : (gi5 69 44).toInt = (gi 69 44).toInt := congrArg Int32.toInt (fX 69 44 (by decide) rfl).1
                                                            have k59 : (gi5 69 59).toInt = (gi 69 59).toInt := congrArg Int32.toInt (fX 69 59 (by decide) rfl).1
                                                            have k60 : (gi5 69 60).toInt = (gi 69 60).toInt := congrArg Int32.toInt (fX 69 60 (by decide) rfl).1
                                                            have k61 : (gi5 69 61).toInt = (gi 69 61).toInt := congrArg Int32.toInt (fX 69 61 (by decide) rfl).1
                                                            have k62 : (gi5 69 62).toInt = (gi 69 62).toInt := congrArg Int32.toInt (fX 69 62 (by decide) rfl).1
                                                            have hp0 : P 0 0 = ((t_S gi : Nat) : Int) := hP.1.1
                                                            have hts : t_S gi = (gi 69 44).toInt.toNat := rfl
                                                            have cy := t_clamp (i := y5_1) (by omega)
                                                            have hkn : y5_1.toNatClampNeg < (P 0 0).toNat := by omega
                                                            have hx : z74.toNatClampNeg = y5_1.toNatClampNeg + 1 := by have := t_clamp (i := z74) (by omega); omega
                                                            have h3b : s_skz P (gi 69 59).toInt ((P 0 0).toNat - z74.toNatClampNeg) (y5_1.toNatClampNeg + 1) (s_k1 P (gi 69 59).toInt Y y5_1.toNatClampNeg) = s_skz P (gi 69 59).toInt (P 0 0).toNat 0 Z := by rw [← h3, show (P 0 0).toNat - y5_1.toNatClampNeg = ((P 0 0).toNat - z74.toNatClampNeg) + 1 by omega]; rfl
                                                            obtain ⟨p1, p2, p3, p4⟩ := hP.2.1 y5_1.toNatClampNeg (by omega)
                                                            obtain ⟨a, b, c, d⟩ := h1.2 y5_1.toNatClampNeg hkn
                                                            have cw := t_clamp (i := w15) (by omega)
                                                            have hs : t_si gi5 y5_1.toNatClampNeg = w15.toNatClampNeg := by unfold t_si; rw [← e15]; omega
                                                            have hsi : t_si gi y5_1.toNatClampNeg = w15.toNatClampNeg := by rw [← hs]; unfold t_si; rw [k90]
                                                            rw [hs] at a
                                                            have hg : w16.toInt = (gi5 99 w15.toNatClampNeg).toInt := by rw [e16]
                                                            have hk1 : s_k1 P (gi 69 59).toInt Y y5_1.toNatClampNeg = Y := s_k1_no (fun hh => by have h9 := hh.2.2; rw [if_neg (by omega)] at a; omega)
                                                            rw [hk1] at h3b
                                                            rw [hx] at h3b
                                                            rw [hx]
                                                            exact ⟨Y, h1, h2, h3b, by omega, fun j e1 e2 => h5 j (by omega) e2, h7, h8⟩)) rfl
  refine ev_sub (lo := [(1, .int (gi3 69 64)), (0, .ref 69)]) rfl (t_sc rfl (t_sc rfl t_sn)) ?_
  exact L5 _ gi3 gl3 gr3 ((gi3 69 64)) hI hX  l4 u4 ((hC3.1 69 59 rfl).1.trans rfl) (fun P Z q hP hJ hZ hO h6 => (by
                                                            have hn : (P 0 0).toNat = t_S gi := by have h9 := hP.1.1; omega
                                                            have hq := q3 (P 0 0).toNat Z hn hZ
                                                            obtain ⟨h1, h2⟩ := hq
                                                            have h64 := h1.1
                                                            have hp0 : P 0 0 = ((t_S gi : Nat) : Int) := hP.1.1
                                                            have cx := t_clamp (i := (gi3 69 64)) (by omega)
                                                            refine ⟨Z, h1, ?_, ?_, by omega, fun j a b => (h1.2 j b).2.2.1 (by omega), rfl, rfl⟩
                                                            · rw [(hC3.1 69 67 rfl).1]; exact h6
                                                            · exact (s_skz_pre (k := (gi3 69 64).toNatClampNeg) (fun j hj => (h1.2 j (by omega)).2.1 (by omega)) _ (Nat.le_refl _) (by omega)).symm)) rfl
