/-! ===== printed by riv.py: rules() behind its making ===== -/
noncomputable def wl_ue_rulesT : List (Nat × Nat) := [(0, 0), (0, 5), (0, 7), (0, 8), (0, 9), (116, 0), (116, 3), (117, 2), (118, 2), (118, 3), (118, 4), (118, 5), (118, 6), (118, 7), (118, 8), (118, 9), (118, 10), (118, 11), (130, 9999)]
noncomputable def Q_ue_rulesT (sh : List (Nat ⊕ (Nat × Nat))) (gi : Nat → Nat → Int32) (gl : Nat → Nat → Int64) (gr : Nat → Nat → Value) (ar1 : Int32) (ar2 : Nat) : Int32 → (Nat → Nat → Int32) → (Nat → Nat → Int64) → (Nat → Nat → Value) → Prop := fun (v : Int32) (gi2 : Nat → Nat → Int32) (gl2 : Nat → Nat → Int64) (gr2 : Nat → Nat → Value) => (∀ (b : Nat → Int32) (n : Nat), t_US b n 0 0 gi gl gr ar2 → (gi (ar2 + 2) 0).toInt = 0 → (∃ r : Nat, s_rls b n 301 0 0 0 = ((0, 0), r) ∧ v.toInt = (r : Int) ∧ (gi2 0 8).toInt = 0 ∧ (gi2 0 9).toInt = -1 ∧ gr2 0 6 = gr 0 6 ∧ gr2 0 7 = .ref (ar2 + 2) ∧ (gi2 (ar2 + 2) 0).toInt = (r : Int) ∧ (t_UL sh gi ar2 n 0 [] → t_UK gi2 (ar2 + 2) (s_rle b n 301 0 0))) ∨ (∃ p x, x ≠ 0 ∧ s_rls b n 301 0 0 0 = ((s_qb b n p x).1, 0) ∧ v.toInt = -1 ∧ (gi2 0 8).toInt = s_fk b n p x ∧ (gi2 0 9).toInt = (s_F b n p : Nat) ∧ gr2 0 6 = gr 0 6 ∧ gr2 0 7 = gr 0 7)) ∧ t_l0 ar2 gi gl gr gi2 gl2 gr2
theorem c_ue_rulesT {X : x_Ext} {d : Nat} {sh : List (Nat ⊕ (Nat × Nat))} {gi : Nat → Nat → Int32} {gl : Nat → Nat → Int64} {gr : Nat → Nat → Value} (hI : t_I sh gi gr) (ar1 : Int32) (ar2 : Nat) (p_a2 : t_UQ sh gr ar2) : x_Ev X (d + 66) n_X11_rules 53 [(0, .ref 0), (1, .int ar1), (2, .ref ar2)] [] (sh, gi, gl, gr) (t_PI wl_ue_rulesT sh gi gl gr (-1) 12 (Q_ue_rulesT sh gi gl gr ar1 ar2)) := by
  have hX : t_X wl_ue_rulesT sh gi gl gr gi gl gr := t_X.rf
  refine ev_loc f_X11_rules (nx := 54) rfl rfl rfl rfl ?_
  refine ev_qI f_X11_rules (nx := 57) (r := []) rfl rfl rfl rfl rfl rfl rfl (c_ue_rulesAll hI (ar2) p_a2) rfl hX rfl (fun w3 gi3 gl3 gr3 l3 u3 hI hX hC3 q3 => ?_)
  have q3 : (∀ (b : Nat → Int32) (n q c : Nat), t_US b n q c gi gl gr ar2 → (gi (ar2 + 2) 0).toInt = 0 → (w3.toInt = 1 ∧ ∃ r : Nat, s_rls b n 301 q c 0 = ((0, 0), r) ∧ (gi3 (ar2 + 2) 0).toInt = (r : Int) ∧ t_FL gi3 (ar2 + 1) 0 (-1) ∧ (t_UL sh gi ar2 n q [] → ∃ q2, t_UL sh gi3 ar2 n q2 (s_rle b n 301 q c) ∧ (s_rle b n 301 q c).length = r)) ∨ (w3.toInt = 0 ∧ ∃ p x, x ≠ 0 ∧ s_rls b n 301 q c 0 = ((s_qb b n p x).1, 0) ∧ t_FL gi3 (ar2 + 1) (s_fk b n p x) (s_F b n p))) ∧ t_lq ar2 gi gl gr gi3 gl3 gr3 := q3
  replace p_a2 := p_a2.ext hC3.2
  refine ev_loc f_X11_rules (nx := 58) (lo' := [(3, .int w3), (0, .ref 0), (1, .int ar1), (2, .ref ar2)]) rfl rfl rfl rfl ?_
  refine ev_loc f_X11_rules (nx := 59) rfl rfl rfl rfl ?_
  refine ev_loc f_X11_rules (nx := 60) rfl rfl rfl rfl ?_
  have e4 := p_a2.2.2.1.1
  have p4 := p_a2.2.2.1.2
  refine ev_getR f_X11_rules (nx := 63) rfl p_a2.1 rfl rfl e4 rfl rfl ?_
  refine ev_inV2 f_X11_rules (nx := 66) (lo2 := [(0, .ref 0), (1, .ref (ar2 + 1))]) rfl rfl rfl rfl f_X11_endText (hI.wf.s rfl) rfl rfl rfl rfl rfl ?_
  refine ev_loc f_X11_endText (nx := 1) rfl rfl rfl rfl ?_
  refine ev_ic f_X11_endText (nx := 2) (v := 0) rfl (by decide) rfl ?_
  refine ev_putIT f_X11_endText (nx := 5) rfl (hI.wf.s rfl) rfl rfl rfl (hI.putB (hI.wf.s rfl) rfl rfl (by decide : (0:Int) ≤ (0:Int32).toInt) (by decide) (by decide : (0:Int32).toInt ≤ (0:Int)) (by decide)) (hX.upI rfl) (fun g5 e5 hI hX => ?_)
  refine ev_loc f_X11_endText (nx := 6) rfl rfl rfl rfl ?_
  refine ev_loc f_X11_endText (nx := 7) rfl rfl rfl rfl ?_
  refine ev_getI f_X11_endText (nx := 10) rfl p4.1 rfl rfl rfl ?_
  refine ev_putIT f_X11_endText (nx := 13) rfl (hI.wf.s rfl) rfl rfl rfl (hI.put0 (hI.wf.s rfl) rfl rfl) (hX.upI rfl) (fun g6 e6 hI hX => ?_)
  refine ev_loc f_X11_endText (nx := 14) rfl rfl rfl rfl ?_
  refine ev_loc f_X11_endText (nx := 15) rfl rfl rfl rfl ?_
  refine ev_getI f_X11_endText (nx := 18) rfl p4.1 rfl rfl rfl ?_
  refine ev_putIT f_X11_endText (nx := 21) rfl (hI.wf.s rfl) rfl rfl rfl (hI.put0 (hI.wf.s rfl) rfl rfl) (hX.upI rfl) (fun g7 e7 hI hX => ?_)
  refine ev_retK0 f_X11_endText rfl rfl rfl ?_
  refine ev_loc f_X11_rules (nx := 67) rfl rfl rfl rfl ?_
  refine ev_if f_X11_rules (t1 := 70) (t2 := 77) rfl rfl rfl (fun h8 => ?_) (fun h8 => ?_)
  · have u9 : w3.toInt ≤ 0 := t_equ h8 (by decide : (0:Int32).toInt ≤ (0:Int))
    refine ev_loc f_X11_rules (nx := 71) rfl rfl rfl rfl ?_
    refine ev_bp f_X11_rules (nx := 73) (v := 9) rfl (by decide) rfl ?_
    refine ev_inV2 f_X11_rules (nx := 76) (lo2 := [(0, .ref 0), (1, .int 9)]) rfl rfl rfl rfl f_X11_refuse (hI.wf.s rfl) rfl rfl rfl rfl rfl ?_
    refine ev_loc f_X11_refuse (nx := 1) rfl rfl rfl rfl ?_
    refine ev_loc f_X11_refuse (nx := 2) rfl rfl rfl rfl ?_
    refine ev_putIT f_X11_refuse (nx := 5) rfl (hI.wf.s rfl) rfl rfl rfl (hI.put0 (hI.wf.s rfl) rfl rfl) (hX.upI rfl) (fun g10 e10 hI hX => ?_)
    refine ev_ic f_X11_refuse (nx := 6) (v := -1) rfl (by decide) rfl ?_
    refine ev_retK1 f_X11_refuse rfl rfl rfl ?_
    exact ev_ret f_X11_rules rfl rfl rfl ⟨_, _, _, rfl, hI, hX, ⟨_, rfl, (by decide : ((-1):Int) ≤ ((-1):Int32).toInt), (Int.le_trans (by decide : ((-1):Int32).toInt ≤ ((-1):Int)) (by decide : ((-1):Int) ≤ 12)), (show (∀ (b : Nat → Int32) (n : Nat), t_US b n 0 0 gi gl gr ar2 → (gi (ar2 + 2) 0).toInt = 0 → (∃ r : Nat, s_rls b n 301 0 0 0 = ((0, 0), r) ∧ ((-1) : Int) = (r : Int) ∧ (g10 0 8).toInt = 0 ∧ (g10 0 9).toInt = -1 ∧ gr3 0 6 = gr 0 6 ∧ gr3 0 7 = .ref (ar2 + 2) ∧ (g10 (ar2 + 2) 0).toInt = (r : Int) ∧ (t_UL sh gi ar2 n 0 [] → t_UK g10 (ar2 + 2) (s_rle b n 301 0 0))) ∨ (∃ p x, x ≠ 0 ∧ s_rls b n 301 0 0 0 = ((s_qb b n p x).1, 0) ∧ ((-1) : Int) = -1 ∧ (g10 0 8).toInt = s_fk b n p x ∧ (g10 0 9).toInt = (s_F b n p : Nat) ∧ gr3 0 6 = gr 0 6 ∧ gr3 0 7 = gr 0 7)) ∧ t_l0 ar2 gi gl gr g10 gl3 gr3 from ⟨(by
                                                            intro b n h h0
                                                            have h102 := p_a2.2.1
                                                            obtain ⟨_, p, x, hx, hX, hf⟩ := (q3.1 b n 0 0 h h0).resolve_left (fun hh => absurd hh.1 (by omega))
                                                            refine Or.inr ⟨p, x, hx, hX, rfl, ?_, ?_, ?_, ?_⟩
                                                            · refine (congrArg Int32.toInt ((by rw [e10]; exact x_up2_off (Or.inr (by decide)) : g10 0 8 = g7 0 8).trans ((by rw [e7]; exact x_up2_off (Or.inr (by decide)) : g7 0 8 = g6 0 8).trans (by rw [e6]; exact x_up2_at _ _ _ _ : g6 0 8 = (g5 (ar2 + 1) 10))))).trans ?_; rw [e5, x_up2_ne (by omega)]; exact hf.1
                                                            · refine (congrArg Int32.toInt ((by rw [e10]; exact x_up2_off (Or.inr (by decide)) : g10 0 9 = g7 0 9).trans (by rw [e7]; exact x_up2_at _ _ _ _ : g7 0 9 = (g6 (ar2 + 1) 11)))).trans ?_; rw [e6, x_up2_ne (by omega), e5, x_up2_ne (by omega)]; exact hf.2
                                                            · exact (hC3.1 0 6 rfl).2.2
                                                            · exact (hC3.1 0 7 rfl).2.2), (fun K k0 hK => have q9 := q3.2 K hK; ⟨by rw [e10, x_up2_ne k0, e7, x_up2_ne k0, e6, x_up2_ne k0, e5, x_up2_ne k0]; exact q9.1, q9.2.1, q9.2.2⟩)⟩)⟩⟩
  · have r11 : w3.toInt ≠ 0 := fun e => h8 (Int32.toInt_inj.mp (e.trans (by decide : (0:Int) = (0 : Int32).toInt)))
    have l12 : 1 ≤ w3.toInt := t_nel h8 l3 rfl rfl
    refine ev_loc f_X11_rules (nx := 78) rfl rfl rfl rfl ?_
    refine ev_loc f_X11_rules (nx := 79) rfl rfl rfl rfl ?_
    have e13 := p_a2.2.2.2.1
    have p13 := p_a2.2.2.2.2
    refine ev_getR f_X11_rules (nx := 82) rfl p_a2.1 rfl rfl e13 rfl rfl ?_
    have hE14 := t_eqf_up (gr := gr3) (j := 7) (v := .ref (ar2 + 2)) (hI.wf.s (k := 0) rfl) rfl
    have hT14 := t_putRules hI (v := .ref (ar2 + 2)) (Or.inr ⟨_, rfl, p13⟩)
    replace p_a2 := p_a2.ext hE14
    replace p4 := p4.ext hE14
    replace p13 := p13.ext hE14
    refine ev_putRT f_X11_rules (nx := 85) rfl (hI.wf.s rfl) rfl rfl rfl rfl hT14 (hX.upR rfl hE14) (fun g14 e14 hI hX => ?_)
    rw [← e14] at p_a2
    rw [← e14] at p4
    rw [← e14] at p13
    refine ev_loc f_X11_rules (nx := 86) rfl rfl rfl rfl ?_
    refine ev_loc f_X11_rules (nx := 87) rfl rfl rfl rfl ?_
    refine ev_getR f_X11_rules (nx := 90) (v := .ref (ar2 + 2)) rfl (hI.wf.s rfl) rfl rfl (by rw [e14]; exact x_up2_at _ _ _ _ : g14 0 7 = .ref (ar2 + 2)) rfl rfl ?_
    refine ev_getI f_X11_rules (nx := 93) rfl p13.1 rfl rfl rfl ?_
    obtain ⟨l15, u15⟩ := hI.b p13.1 (t_bdK rfl : t_bd 6 0 = some (0, 12))
    refine ev_inV2 f_X11_rules (nx := 96) (lo2 := [(0, .ref 0), (1, .int (g7 (ar2 + 2) 0))]) rfl rfl rfl rfl f_X11_answer (hI.wf.s rfl) rfl rfl rfl rfl rfl ?_
    refine ev_loc f_X11_answer (nx := 1) rfl rfl rfl rfl ?_
    refine ev_ic f_X11_answer (nx := 2) (v := 0) rfl (by decide) rfl ?_
    refine ev_putIT f_X11_answer (nx := 5) rfl (hI.wf.s rfl) rfl rfl rfl (hI.put0 (hI.wf.s rfl) rfl rfl) (hX.upI rfl) (fun g16 e16 hI hX => ?_)
    refine ev_loc f_X11_answer (nx := 6) rfl rfl rfl rfl ?_
    refine ev_retK1 f_X11_answer rfl rfl rfl ?_
    exact ev_ret f_X11_rules rfl rfl rfl ⟨_, _, _, rfl, hI, hX, ⟨_, rfl, (Int.le_trans (by decide : ((-1):Int) ≤ 0) l15), u15, (show (∀ (b : Nat → Int32) (n : Nat), t_US b n 0 0 gi gl gr ar2 → (gi (ar2 + 2) 0).toInt = 0 → (∃ r : Nat, s_rls b n 301 0 0 0 = ((0, 0), r) ∧ (g7 (ar2 + 2) 0).toInt = (r : Int) ∧ (g16 0 8).toInt = 0 ∧ (g16 0 9).toInt = -1 ∧ g14 0 6 = gr 0 6 ∧ g14 0 7 = .ref (ar2 + 2) ∧ (g16 (ar2 + 2) 0).toInt = (r : Int) ∧ (t_UL sh gi ar2 n 0 [] → t_UK g16 (ar2 + 2) (s_rle b n 301 0 0))) ∨ (∃ p x, x ≠ 0 ∧ s_rls b n 301 0 0 0 = ((s_qb b n p x).1, 0) ∧ (g7 (ar2 + 2) 0).toInt = -1 ∧ (g16 0 8).toInt = s_fk b n p x ∧ (g16 0 9).toInt = (s_F b n p : Nat) ∧ g14 0 6 = gr 0 6 ∧ g14 0 7 = gr 0 7)) ∧ t_l0 ar2 gi gl gr g16 gl3 g14 from ⟨(by
                                                            intro b n h h0
                                                            have h102 := p_a2.2.1
                                                            obtain ⟨_, r, hX, hm, hf, hU2⟩ := (q3.1 b n 0 0 h h0).resolve_right (fun hh => absurd hh.1 (by omega))
                                                            refine Or.inl ⟨r, hX, ?_, ?_, ?_, ?_, (by rw [e14]; exact x_up2_at _ _ _ _ : g14 0 7 = .ref (ar2 + 2)), ?_, fun hU => (hU2 hU).elim (fun q2 hq2 => (((((hq2.1.uk (by rw [hq2.2]; exact hm)).s0 (by omega) e5).s0 (by omega) e6).s0 (by omega) e7).s0 (by omega) e16))⟩
                                                            · rw [e7, x_up2_ne (by omega), e6, x_up2_ne (by omega), e5, x_up2_ne (by omega)]; exact hm
                                                            · refine (congrArg Int32.toInt ((by rw [e16]; exact x_up2_off (Or.inr (by decide)) : g16 0 8 = g7 0 8).trans ((by rw [e7]; exact x_up2_off (Or.inr (by decide)) : g7 0 8 = g6 0 8).trans (by rw [e6]; exact x_up2_at _ _ _ _ : g6 0 8 = (g5 (ar2 + 1) 10))))).trans ?_; rw [e5, x_up2_ne (by omega)]; exact hf.1
                                                            · refine (congrArg Int32.toInt ((by rw [e16]; exact x_up2_off (Or.inr (by decide)) : g16 0 9 = g7 0 9).trans (by rw [e7]; exact x_up2_at _ _ _ _ : g7 0 9 = (g6 (ar2 + 1) 11)))).trans ?_; rw [e6, x_up2_ne (by omega), e5, x_up2_ne (by omega)]; exact hf.2
                                                            · rw [e14, x_up2_off (Or.inr (by decide))]; exact (hC3.1 0 6 rfl).2.2
                                                            · rw [e16, x_up2_ne (by omega), e7, x_up2_ne (by omega), e6, x_up2_ne (by omega), e5, x_up2_ne (by omega)]; exact hm), (fun K k0 hK => have q9 := q3.2 K hK; ⟨by rw [e16, x_up2_ne k0, e7, x_up2_ne k0, e6, x_up2_ne k0, e5, x_up2_ne k0]; exact q9.1, q9.2.1, by rw [e14, x_up2_ne k0]; exact q9.2.2⟩)⟩)⟩⟩
