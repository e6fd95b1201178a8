/-! ===== printed by riv.py: river() behind its making ===== -/
noncomputable def wl_s_riverT : List (Nat × Nat) := [(0, 0), (0, 5), (0, 6), (0, 7), (0, 8), (0, 9), (3, 0), (3, 3), (3, 4), (3, 5), (3, 6), (4, 9999), (5, 9999), (6, 0), (7, 9999), (8, 9999), (9, 9999), (10, 9999), (11, 9999), (12, 9999), (13, 0), (14, 9999), (15, 9999), (16, 9999), (17, 9999), (18, 9999), (29, 0), (30, 9999), (31, 9999), (32, 9999), (33, 9999), (34, 9999), (35, 0), (36, 9999), (37, 9999), (38, 9999), (39, 9999), (40, 9999), (43, 9999), (44, 9999), (46, 0), (47, 9999), (48, 9999), (49, 9999), (50, 9999), (51, 9999), (52, 0), (53, 9999), (54, 9999), (55, 9999), (56, 9999), (57, 9999), (58, 9999), (59, 9999), (113, 0), (114, 0), (114, 3), (114, 4), (114, 5), (114, 6), (115, 4), (115, 5), (115, 6), (115, 7), (118, 2), (118, 3), (118, 4), (118, 5), (118, 6), (118, 7), (118, 8), (118, 9), (118, 10), (118, 11), (130, 9999), (131, 9999), (133, 9999)]
noncomputable def Q_s_riverT (gi : Nat → Nat → Int32) (gl : Nat → Nat → Int64) (gr : Nat → Nat → Value) (ar1 : Int32) (ar2 : Nat) : Int32 → (Nat → Nat → Int32) → (Nat → Nat → Int64) → (Nat → Nat → Value) → Prop := fun (v : Int32) (gi2 : Nat → Nat → Int32) (gl2 : Nat → Nat → Int64) (gr2 : Nat → Nat → Value) => (∀ (b : Nat → Int32) (n : Nat), t_CN b n 0 s_D0 gi gl gr ar2 → (∃ q2 D2, s_rv b n 901 0 s_D0 = s_ok q2 D2 ∧ v.toInt = D2 1 ∧ (gi2 0 8).toInt = 0 ∧ (gi2 0 9).toInt = -1 ∧ gr2 0 6 = .ref (ar2 + 2) ∧ gr2 0 7 = .null ∧ t_CR gi2 gl2 ar2 D2 (D2 0 + D2 1 + D2 2) (s_used D2)) ∨ (∃ p x D2, x ≠ 0 ∧ s_rv b n 901 0 s_D0 = s_bad b n p x D2 ∧ v.toInt = -1 ∧ (gi2 0 8).toInt = s_fk b n p x ∧ (gi2 0 9).toInt = (s_F b n p : Nat) ∧ gr2 0 6 = gr 0 6 ∧ gr2 0 7 = gr 0 7)) ∧ t_l0 ar2 gi gl gr gi2 gl2 gr2
theorem c_s_riverT {X : x_Ext} {d : Nat} {sh : List (Nat ⊕ (Nat × Nat))} {gi : Nat → Nat → Int32} {gl : Nat → Nat → Int64} {gr : Nat → Nat → Value} (hI : t_I sh gi gr) (ar1 : Int32) (ar2 : Nat) (p_a2 : t_RQ sh gr ar2) : x_Ev X (d + 7) n_X11_river 38 [(0, .ref 0), (1, .int ar1), (2, .ref ar2)] [] (sh, gi, gl, gr) (t_PI wl_s_riverT sh gi gl gr (-1) 6 (Q_s_riverT gi gl gr ar1 ar2)) := by
  have hX : t_X wl_s_riverT sh gi gl gr gi gl gr := t_X.rf
  refine ev_loc f_X11_river (nx := 39) rfl rfl rfl rfl ?_
  refine ev_qI f_X11_river (nx := 42) (r := []) rfl rfl rfl rfl rfl rfl rfl (c_s_readAll hI (ar2) p_a2) rfl hX rfl (fun w3 gi3 gl3 gr3 l3 u3 hI hX hC3 q3 => ?_)
  have q3 : (∀ (b : Nat → Int32) (n q : Nat) (D : s_D), t_CN b n q D gi gl gr ar2 → (w3.toInt = 1 ∧ ∃ q2 D2, s_rv b n 901 q D = s_ok q2 D2 ∧ t_CN b n q2 D2 gi3 gl3 gr3 ar2) ∨ (w3.toInt = 0 ∧ ∃ p x D2, x ≠ 0 ∧ s_rv b n 901 q D = s_bad b n p x D2 ∧ t_FL gi3 (ar2 + 1) (s_fk b n p x) (s_F b n p))) ∧ t_lq ar2 gi gl gr gi3 gl3 gr3 := q3
  replace p_a2 := p_a2.ext hC3.2
  refine ev_loc f_X11_river (nx := 43) (lo' := [(3, .int w3), (0, .ref 0), (1, .int ar1), (2, .ref ar2)]) rfl rfl rfl rfl ?_
  refine ev_loc f_X11_river (nx := 44) rfl rfl rfl rfl ?_
  refine ev_loc f_X11_river (nx := 45) rfl rfl rfl rfl ?_
  have e4 := p_a2.2.2.2.2.1.1
  have p4 := p_a2.2.2.2.2.1.2
  refine ev_getR f_X11_river (nx := 48) rfl p_a2.1 rfl rfl e4 rfl rfl ?_
  refine ev_inV2 f_X11_river (nx := 51) (lo2 := [(0, .ref 0), (1, .ref (ar2 + 1))]) rfl rfl rfl rfl f_X11_endText (hI.wf.s rfl) rfl rfl rfl rfl rfl ?_
  refine ev_loc f_X11_endText (nx := 1) rfl rfl rfl rfl ?_
  refine ev_ic f_X11_endText (nx := 2) (v := 0) rfl (by decide) rfl ?_
  refine ev_putIT f_X11_endText (nx := 5) rfl (hI.wf.s rfl) rfl rfl rfl (hI.putB (hI.wf.s rfl) rfl rfl (by decide : (0:Int) ≤ (0:Int32).toInt) (by decide) (by decide : (0:Int32).toInt ≤ (0:Int)) (by decide)) (hX.upI rfl) (fun g5 e5 hI hX => ?_)
  refine ev_loc f_X11_endText (nx := 6) rfl rfl rfl rfl ?_
  refine ev_loc f_X11_endText (nx := 7) rfl rfl rfl rfl ?_
  refine ev_getI f_X11_endText (nx := 10) rfl p4.1 rfl rfl rfl ?_
  refine ev_putIT f_X11_endText (nx := 13) rfl (hI.wf.s rfl) rfl rfl rfl (hI.put0 (hI.wf.s rfl) rfl rfl) (hX.upI rfl) (fun g6 e6 hI hX => ?_)
  refine ev_loc f_X11_endText (nx := 14) rfl rfl rfl rfl ?_
  refine ev_loc f_X11_endText (nx := 15) rfl rfl rfl rfl ?_
  refine ev_getI f_X11_endText (nx := 18) rfl p4.1 rfl rfl rfl ?_
  refine ev_putIT f_X11_endText (nx := 21) rfl (hI.wf.s rfl) rfl rfl rfl (hI.put0 (hI.wf.s rfl) rfl rfl) (hX.upI rfl) (fun g7 e7 hI hX => ?_)
  refine ev_retK0 f_X11_endText rfl rfl rfl ?_
  refine ev_loc f_X11_river (nx := 52) rfl rfl rfl rfl ?_
  refine ev_if f_X11_river (t1 := 55) (t2 := 62) rfl rfl rfl (fun h8 => ?_) (fun h8 => ?_)
  · have u9 : w3.toInt ≤ 0 := t_equ h8 (by decide : (0:Int32).toInt ≤ (0:Int))
    refine ev_loc f_X11_river (nx := 56) rfl rfl rfl rfl ?_
    refine ev_bp f_X11_river (nx := 58) (v := 9) rfl (by decide) rfl ?_
    refine ev_inV2 f_X11_river (nx := 61) (lo2 := [(0, .ref 0), (1, .int 9)]) rfl rfl rfl rfl f_X11_refuse (hI.wf.s rfl) rfl rfl rfl rfl rfl ?_
    refine ev_loc f_X11_refuse (nx := 1) rfl rfl rfl rfl ?_
    refine ev_loc f_X11_refuse (nx := 2) rfl rfl rfl rfl ?_
    refine ev_putIT f_X11_refuse (nx := 5) rfl (hI.wf.s rfl) rfl rfl rfl (hI.put0 (hI.wf.s rfl) rfl rfl) (hX.upI rfl) (fun g10 e10 hI hX => ?_)
    refine ev_ic f_X11_refuse (nx := 6) (v := -1) rfl (by decide) rfl ?_
    refine ev_retK1 f_X11_refuse rfl rfl rfl ?_
    exact ev_ret f_X11_river rfl rfl rfl ⟨_, _, _, rfl, hI, hX, ⟨_, rfl, (by decide : ((-1):Int) ≤ ((-1):Int32).toInt), (Int.le_trans (by decide : ((-1):Int32).toInt ≤ ((-1):Int)) (by decide : ((-1):Int) ≤ 6)), (show (∀ (b : Nat → Int32) (n : Nat), t_CN b n 0 s_D0 gi gl gr ar2 → (∃ q2 D2, s_rv b n 901 0 s_D0 = s_ok q2 D2 ∧ ((-1) : Int) = D2 1 ∧ (g10 0 8).toInt = 0 ∧ (g10 0 9).toInt = -1 ∧ gr3 0 6 = .ref (ar2 + 2) ∧ gr3 0 7 = .null ∧ t_CR g10 gl3 ar2 D2 (D2 0 + D2 1 + D2 2) (s_used D2)) ∨ (∃ p x D2, x ≠ 0 ∧ s_rv b n 901 0 s_D0 = s_bad b n p x D2 ∧ ((-1) : Int) = -1 ∧ (g10 0 8).toInt = s_fk b n p x ∧ (g10 0 9).toInt = (s_F b n p : Nat) ∧ gr3 0 6 = gr 0 6 ∧ gr3 0 7 = gr 0 7)) ∧ t_l0 ar2 gi gl gr g10 gl3 gr3 from ⟨(by
                                                            intro b n h
                                                            have h102 := p_a2.2.1
                                                            obtain ⟨_, p, x, D2, hx, hX, hf⟩ := (q3.1 b n 0 s_D0 h).resolve_left (fun hh => absurd hh.1 (by omega))
                                                            refine Or.inr ⟨p, x, D2, hx, hX, rfl, ?_, ?_, ?_, ?_⟩
                                                            · refine (congrArg Int32.toInt ((by rw [e10]; exact x_up2_off (Or.inr (by decide)) : g10 0 8 = g7 0 8).trans ((by rw [e7]; exact x_up2_off (Or.inr (by decide)) : g7 0 8 = g6 0 8).trans (by rw [e6]; exact x_up2_at _ _ _ _ : g6 0 8 = (g5 (ar2 + 1) 10))))).trans ?_; rw [e5, x_up2_ne (by omega)]; exact hf.1
                                                            · refine (congrArg Int32.toInt ((by rw [e10]; exact x_up2_off (Or.inr (by decide)) : g10 0 9 = g7 0 9).trans (by rw [e7]; exact x_up2_at _ _ _ _ : g7 0 9 = (g6 (ar2 + 1) 11)))).trans ?_; rw [e6, x_up2_ne (by omega), e5, x_up2_ne (by omega)]; exact hf.2
                                                            · exact (hC3.1 0 6 rfl).2.2
                                                            · exact (hC3.1 0 7 rfl).2.2), (fun K k0 hK => have q9 := q3.2 K hK; ⟨by rw [e10, x_up2_ne k0, e7, x_up2_ne k0, e6, x_up2_ne k0, e5, x_up2_ne k0]; exact q9.1, q9.2.1, q9.2.2⟩)⟩)⟩⟩
  · have r11 : w3.toInt ≠ 0 := fun e => h8 (Int32.toInt_inj.mp (e.trans (by decide : (0:Int) = (0 : Int32).toInt)))
    have l12 : 1 ≤ w3.toInt := t_nel h8 l3 rfl rfl
    refine ev_loc f_X11_river (nx := 63) rfl rfl rfl rfl ?_
    refine ev_loc f_X11_river (nx := 64) rfl rfl rfl rfl ?_
    have e13 := p_a2.2.2.2.2.2.1
    have p13 := p_a2.2.2.2.2.2.2
    refine ev_getR f_X11_river (nx := 67) rfl p_a2.1 rfl rfl e13 rfl rfl ?_
    have pR14 := p13.Rv
    have hE14 := t_eqf_up (gr := gr3) (j := 6) (v := .ref (ar2 + 2)) (hI.wf.s (k := 0) rfl) rfl
    have hT14 := t_putRiver hI pR14
    replace p_a2 := p_a2.ext hE14
    replace p4 := p4.ext hE14
    replace p13 := p13.ext hE14
    refine ev_putRT f_X11_river (nx := 70) rfl (hI.wf.s rfl) rfl rfl rfl rfl hT14 (hX.upR rfl hE14) (fun g14 e14 hI hX => ?_)
    rw [← e14] at p_a2
    rw [← e14] at p4
    rw [← e14] at p13
    refine ev_loc f_X11_river (nx := 71) rfl rfl rfl rfl ?_
    refine ev_alu f_X11_river (nx := 72) rfl rfl rfl rfl ?_
    have hE15 := t_eqf_up (gr := g14) (j := 7) (v := .null) (hI.wf.s (k := 0) rfl) rfl
    have hT15 := t_putRules hI (v := .null) (Or.inl rfl)
    replace p_a2 := p_a2.ext hE15
    replace p4 := p4.ext hE15
    replace p13 := p13.ext hE15
    refine ev_putRT f_X11_river (nx := 75) rfl (hI.wf.s rfl) rfl rfl rfl rfl hT15 (hX.upR rfl hE15) (fun g15 e15 hI hX => ?_)
    rw [← e15] at p_a2
    rw [← e15] at p4
    rw [← e15] at p13
    refine ev_loc f_X11_river (nx := 76) rfl rfl rfl rfl ?_
    refine ev_loc f_X11_river (nx := 77) rfl rfl rfl rfl ?_
    refine ev_getR f_X11_river (nx := 80) (v := .ref (ar2 + 2)) rfl (hI.wf.s rfl) rfl rfl ((by rw [e15]; exact x_up2_off (Or.inr (by decide)) : g15 0 6 = g14 0 6).trans (by rw [e14]; exact x_up2_at _ _ _ _ : g14 0 6 = .ref (ar2 + 2))) rfl rfl ?_
    have e16 := p13.2.2.2.2.2.1.1
    have p16 := p13.2.2.2.2.2.1.2
    refine ev_getR f_X11_river (nx := 83) rfl p13.1 rfl rfl e16 rfl rfl ?_
    refine ev_getI f_X11_river (nx := 86) rfl p16.1 rfl rfl rfl ?_
    obtain ⟨l17, u17⟩ := hI.b p16.1 (t_bdK rfl : t_bd 3 0 = some (0, 6))
    refine ev_inV2 f_X11_river (nx := 89) (lo2 := [(0, .ref 0), (1, .int (g7 (ar2 + 2 + 3) 0))]) rfl rfl rfl rfl f_X11_answer (hI.wf.s rfl) rfl rfl rfl rfl rfl ?_
    refine ev_loc f_X11_answer (nx := 1) rfl rfl rfl rfl ?_
    refine ev_ic f_X11_answer (nx := 2) (v := 0) rfl (by decide) rfl ?_
    refine ev_putIT f_X11_answer (nx := 5) rfl (hI.wf.s rfl) rfl rfl rfl (hI.put0 (hI.wf.s rfl) rfl rfl) (hX.upI rfl) (fun g18 e18 hI hX => ?_)
    refine ev_loc f_X11_answer (nx := 6) rfl rfl rfl rfl ?_
    refine ev_retK1 f_X11_answer rfl rfl rfl ?_
    exact ev_ret f_X11_river rfl rfl rfl ⟨_, _, _, rfl, hI, hX, ⟨_, rfl, (Int.le_trans (by decide : ((-1):Int) ≤ 0) l17), u17, (show (∀ (b : Nat → Int32) (n : Nat), t_CN b n 0 s_D0 gi gl gr ar2 → (∃ q2 D2, s_rv b n 901 0 s_D0 = s_ok q2 D2 ∧ (g7 (ar2 + 2 + 3) 0).toInt = D2 1 ∧ (g18 0 8).toInt = 0 ∧ (g18 0 9).toInt = -1 ∧ g15 0 6 = .ref (ar2 + 2) ∧ g15 0 7 = .null ∧ t_CR g18 gl3 ar2 D2 (D2 0 + D2 1 + D2 2) (s_used D2)) ∨ (∃ p x D2, x ≠ 0 ∧ s_rv b n 901 0 s_D0 = s_bad b n p x D2 ∧ (g7 (ar2 + 2 + 3) 0).toInt = -1 ∧ (g18 0 8).toInt = s_fk b n p x ∧ (g18 0 9).toInt = (s_F b n p : Nat) ∧ g15 0 6 = gr 0 6 ∧ g15 0 7 = gr 0 7)) ∧ t_l0 ar2 gi gl gr g18 gl3 g15 from ⟨(by
                                                            intro b n h
                                                            have h102 := p_a2.2.1
                                                            obtain ⟨_, q2, D2, hX, h2⟩ := (q3.1 b n 0 s_D0 h).resolve_right (fun hh => absurd hh.1 (by omega))
                                                            have h2 : t_CS b n q2 D2 _ _ gi3 gl3 gr3 ar2 := h2
                                                            refine Or.inl ⟨q2, D2, hX, ?_, ?_, ?_, ((by rw [e15]; exact x_up2_off (Or.inr (by decide)) : g15 0 6 = g14 0 6).trans (by rw [e14]; exact x_up2_at _ _ _ _ : g14 0 6 = .ref (ar2 + 2))), (by rw [e15]; exact x_up2_at _ _ _ _ : g15 0 7 = .null), h2.2.1.eqs (fun c _ _ => ⟨by rw [e18, x_up2_ne (by omega), e7, x_up2_ne (by omega), e6, x_up2_ne (by omega), e5, x_up2_ne (by omega)], rfl⟩)⟩
                                                            · rw [e7, x_up2_ne (by omega), e6, x_up2_ne (by omega), e5, x_up2_ne (by omega)]; exact h2.2.1.2.2.2.2.1.1
                                                            · refine (congrArg Int32.toInt ((by rw [e18]; exact x_up2_off (Or.inr (by decide)) : g18 0 8 = g7 0 8).trans ((by rw [e7]; exact x_up2_off (Or.inr (by decide)) : g7 0 8 = g6 0 8).trans (by rw [e6]; exact x_up2_at _ _ _ _ : g6 0 8 = (g5 (ar2 + 1) 10))))).trans ?_; rw [e5, x_up2_ne (by omega)]; exact h2.2.2.1
                                                            · refine (congrArg Int32.toInt ((by rw [e18]; exact x_up2_off (Or.inr (by decide)) : g18 0 9 = g7 0 9).trans (by rw [e7]; exact x_up2_at _ _ _ _ : g7 0 9 = (g6 (ar2 + 1) 11)))).trans ?_; rw [e6, x_up2_ne (by omega), e5, x_up2_ne (by omega)]; exact h2.2.2.2), (fun K k0 hK => have q9 := q3.2 K hK; ⟨by rw [e18, x_up2_ne k0, e7, x_up2_ne k0, e6, x_up2_ne k0, e5, x_up2_ne k0]; exact q9.1, q9.2.1, by rw [e15, x_up2_ne k0, e14, x_up2_ne k0]; exact q9.2.2⟩)⟩)⟩⟩
