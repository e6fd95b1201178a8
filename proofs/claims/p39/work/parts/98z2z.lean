/-! ===== printed by riv.py: rules() behind its making ===== -/
noncomputable def wl_u_rulesT : List (Nat × Nat) := [(0, 0), (0, 5), (0, 7), (0, 8), (0, 9), (116, 0), (116, 3), (117, 2), (118, 2), (118, 3), (118, 4), (118, 5), (118, 6), (118, 7), (118, 8), (118, 9), (118, 10), (118, 11), (130, 9999)]
noncomputable def Q_u_rulesT (gi : Nat → Nat → Int32) (gl : Nat → Nat → Int64) (gr : Nat → Nat → Value) (ar1 : Int32) (ar2 : Nat) : Int32 → (Nat → Nat → Int32) → (Nat → Nat → Int64) → (Nat → Nat → Value) → Prop := fun (v : Int32) (gi2 : Nat → Nat → Int32) (gl2 : Nat → Nat → Int64) (gr2 : Nat → Nat → Value) => (∀ (b : Nat → Int32) (n : Nat), t_US b n 0 0 gi gl gr ar2 → (gi (ar2 + 2) 0).toInt = 0 → (∃ r : Nat, s_rls b n 301 0 0 0 = ((0, 0), r) ∧ v.toInt = (r : Int) ∧ (gi2 0 8).toInt = 0 ∧ (gi2 0 9).toInt = -1 ∧ gr2 0 6 = gr 0 6 ∧ gr2 0 7 = .ref (ar2 + 2) ∧ (gi2 (ar2 + 2) 0).toInt = (r : Int)) ∨ (∃ p x, x ≠ 0 ∧ s_rls b n 301 0 0 0 = ((s_qb b n p x).1, 0) ∧ v.toInt = -1 ∧ (gi2 0 8).toInt = s_fk b n p x ∧ (gi2 0 9).toInt = (s_F b n p : Nat) ∧ gr2 0 6 = gr 0 6 ∧ gr2 0 7 = gr 0 7)) ∧ t_l0 ar2 gi gl gr gi2 gl2 gr2
theorem c_u_rulesT {X : x_Ext} {d : Nat} {sh : List (Nat ⊕ (Nat × Nat))} {gi : Nat → Nat → Int32} {gl : Nat → Nat → Int64} {gr : Nat → Nat → Value} (hI : t_I sh gi gr) (ar1 : Int32) (ar2 : Nat) (p_a2 : t_UQ sh gr ar2) : x_Ev X (d + 66) n_X11_rules 53 [(0, .ref 0), (1, .int ar1), (2, .ref ar2)] [] (sh, gi, gl, gr) (t_PI wl_u_rulesT sh gi gl gr (-1) 12 (Q_u_rulesT gi gl gr ar1 ar2)) := by
  have hX : t_X wl_u_rulesT sh gi gl gr gi gl gr := t_X.rf
  refine ev_loc f_X11_rules (nx := 54) rfl rfl rfl rfl ?_
  refine ev_qI f_X11_rules (nx := 57) (r := []) rfl rfl rfl rfl rfl rfl rfl (c_u_rulesAll hI (ar2) p_a2) rfl hX rfl (fun w3 gi3 gl3 gr3 l3 u3 hI hX hC3 q3 => ?_)
  have q3 : (∀ (b : Nat → Int32) (n q c : Nat), t_US b n q c gi gl gr ar2 → (gi (ar2 + 2) 0).toInt = 0 → (w3.toInt = 1 ∧ ∃ r : Nat, s_rls b n 301 q c 0 = ((0, 0), r) ∧ (gi3 (ar2 + 2) 0).toInt = (r : Int) ∧ t_FL gi3 (ar2 + 1) 0 (-1)) ∨ (w3.toInt = 0 ∧ ∃ p x, x ≠ 0 ∧ s_rls b n 301 q c 0 = ((s_qb b n p x).1, 0) ∧ t_FL gi3 (ar2 + 1) (s_fk b n p x) (s_F b n p))) ∧ t_lq ar2 gi gl gr gi3 gl3 gr3 := q3
  replace p_a2 := p_a2.ext hC3.2
  refine ev_loc f_X11_rules (nx := 58) (lo' := [(3, .int w3), (0, .ref 0), (1, .int ar1), (2, .ref ar2)]) rfl rfl rfl rfl ?_
  refine ev_loc f_X11_rules (nx := 59) rfl rfl rfl rfl ?_
  refine ev_loc f_X11_rules (nx := 60) rfl rfl rfl rfl ?_
  have e4 := p_a2.2.2.1.1
  have p4 := p_a2.2.2.1.2
  refine ev_getR f_X11_rules (nx := 63) rfl p_a2.1 rfl rfl e4 rfl rfl ?_
  refine ev_inV2 f_X11_rules (nx := 66) (lo2 := [(0, .ref 0), (1, .ref (ar2 + 1))]) rfl rfl rfl rfl f_X11_endText (hI.wf.s rfl) rfl rfl rfl rfl rfl ?_
  refine ev_loc f_X11_endText (nx := 1) rfl rfl rfl rfl ?_
  refine ev_ic f_X11_endText (nx := 2) (v := 0) rfl (by decide) rfl ?_
  refine ev_putIT f_X11_endText (nx := 5) rfl (hI.wf.s rfl) rfl rfl rfl (hI.putB (hI.wf.s rfl) rfl rfl (by decide : (0:Int) ≤ (0:Int32).toInt) (by decide) (by decide : (0:Int32).toInt ≤ (0:Int)) (by decide)) (hX.upI rfl) (fun g5 e5 hI hX => ?_)
  refine ev_loc f_X11_endText (nx := 6) rfl rfl rfl rfl ?_
  refine ev_loc f_X11_endText (nx := 7) rfl rfl rfl rfl ?_
  refine ev_getI f_X11_endText (nx := 10) rfl p4.1 rfl rfl rfl ?_
  refine ev_putIT f_X11_endText (nx := 13) rfl (hI.wf.s rfl) rfl rfl rfl (hI.put0 (hI.wf.s rfl) rfl rfl) (hX.upI rfl) (fun g6 e6 hI hX => ?_)
  refine ev_loc f_X11_endText (nx := 14) rfl rfl rfl rfl ?_
  refine ev_loc f_X11_endText (nx := 15) rfl rfl rfl rfl ?_
  refine ev_getI f_X11_endText (nx := 18) rfl p4.1 rfl rfl rfl ?_
  refine ev_putIT f_X11_endText (nx := 21) rfl (hI.wf.s rfl) rfl rfl rfl (hI.put0 (hI.wf.s rfl) rfl rfl) (hX.upI rfl) (fun g7 e7 hI hX => ?_)
  refine ev_retK0 f_X11_endText rfl rfl rfl ?_
  refine ev_loc f_X11_rules (nx := 67) rfl rfl rfl rfl ?_
  refine ev_if f_X11_rules (t1 := 70) (t2 := 77) rfl rfl rfl (fun h8 => ?_) (fun h8 => ?_)
  · have u9 : w3.toInt ≤ 0 := t_equ h8 (by decide : (0:Int32).toInt ≤ (0:Int))
    refine ev_loc f_X11_rules (nx := 71) rfl rfl rfl rfl ?_
    refine ev_bp f_X11_rules (nx := 73) (v := 9) rfl (by decide) rfl ?_
    refine ev_inV2 f_X11_rules (nx := 76) (lo2 := [(0, .ref 0), (1, .int 9)]) rfl rfl rfl rfl f_X11_refuse (hI.wf.s rfl) rfl rfl rfl rfl rfl ?_
    refine ev_loc f_X11_refuse (nx := 1) rfl rfl rfl rfl ?_
    refine ev_loc f_X11_refuse (nx := 2) rfl rfl rfl rfl ?_
    refine ev_putIT f_X11_refuse (nx := 5) rfl (hI.wf.s rfl) rfl rfl rfl (hI.put0 (hI.wf.s rfl) rfl rfl) (hX.upI rfl) (fun g10 e10 hI hX => ?_)
    refine ev_ic f_X11_refuse (nx := 6) (v := -1) rfl (by decide) rfl ?_
    refine ev_retK1 f_X11_refuse rfl rfl rfl ?_
    exact ev_ret f_X11_rules rfl rfl rfl ⟨_, _, _, rfl, hI, hX, ⟨_, rfl, (by decide : ((-1):Int) ≤ ((-1):Int32).toInt), (Int.le_trans (by decide : ((-1):Int32).toInt ≤ ((-1):Int)) (by decide : ((-1):Int) ≤ 12)), (show (∀ (b : Nat → Int32) (n : Nat), t_US b n 0 0 gi gl gr ar2 → (gi (ar2 + 2) 0).toInt = 0 → (∃ r : Nat, s_rls b n 301 0 0 0 = ((0, 0), r) ∧ ((-1) : Int) = (r : Int) ∧ (g10 0 8).toInt = 0 ∧ (g10 0 9).toInt = -1 ∧ gr3 0 6 = gr 0 6 ∧ gr3 0 7 = .ref (ar2 + 2) ∧ (g10 (ar2 + 2) 0).toInt = (r : Int)) ∨ (∃ p x, x ≠ 0 ∧ s_rls b n 301 0 0 0 = ((s_qb b n p x).1, 0) ∧ ((-1) : Int) = -1 ∧ (g10 0 8).toInt = s_fk b n p x ∧ (g10 0 9).toInt = (s_F b n p : Nat) ∧ gr3 0 6 = gr 0 6 ∧ gr3 0 7 = gr 0 7)) ∧ t_l0 ar2 gi gl gr g10 gl3 gr3 from ⟨(by
                                                            intro b n h h0
                                                            have h102 := p_a2.2.1
                                                            obtain ⟨_, p, x, hx, hX, hf⟩ := (q3.1 b n 0 0 h h0).resolve_left (fun hh => absurd hh.1 (by omega))
                                                            refine Or.inr ⟨p, x, hx, hX, rfl, ?_, ?_, ?_, ?_⟩
                                                            · refine (congrArg Int32.toInt ((by rw [e10]; exact x_up2_off (Or.inr (by decide)) : g10 0 8 = g7 0 8).trans ((by rw [e7]; exact x_up2_off (Or.inr (by decide)) : g7 0 8 = g6 0 8).trans (by rw [e6]; exact x_up2_at _ _ _ _ : g6 0 8 = (g5 (ar2 + 1) 10))))).trans ?_; rw [e5, x_up2_ne (by omega)]; exact hf.1
                                                            · refine (congrArg Int32.toInt ((by rw [e10]; exact x_up2_off (Or.inr (by decide)) : g10 0 9 = g7 0 9).trans (by rw [e7]; exact x_up2_at _ _ _ _ : g7 0 9 = (g6 (ar2 + 1) 11)))).trans ?_; rw [e6, x_up2_ne (by omega), e5, x_up2_ne (by omega)]; exact hf.2
                                                            · exact (hC3.1 0 6 rfl).2.2
                                                            · exact (hC3.1 0 7 rfl).2.2), (fun K k0 hK => have q9 := q3.2 K hK; ⟨by rw [e10, x_up2_ne k0, e7, x_up2_ne k0, e6, x_up2_ne k0, e5, x_up2_ne k0]; exact q9.1, q9.2.1, q9.2.2⟩)⟩)⟩⟩
  · have r11 : w3.toInt ≠ 0 := fun e => h8 (Int32.toInt_inj.mp (e.trans (by decide : (0:Int) = (0 : Int32).toInt)))
    have l12 : 1 ≤ w3.toInt := t_nel h8 l3 rfl rfl
    refine ev_loc f_X11_rules (nx := 78) rfl rfl rfl rfl ?_
    refine ev_loc f_X11_rules (nx := 79) rfl rfl rfl rfl ?_
    have e13 := p_a2.2.2.2.1
    have p13 := p_a2.2.2.2.2
    refine ev_getR f_X11_rules (nx := 82) rfl p_a2.1 rfl rfl e13 rfl rfl ?_
    have hE14 := t_eqf_up (gr := gr3) (j := 7) (v := .ref (ar2 + 2)) (hI.wf.s (k := 0) rfl) rfl
    have hT14 := t_putRules hI (v := .ref (ar2 + 2)) (Or.inr ⟨_, rfl, p13⟩)
    replace p_a2 := p_a2.ext hE14
    replace p4 := p4.ext hE14
    replace p13 := p13.ext hE14
    refine ev_putRT f_X11_rules (nx := 85) rfl (hI.wf.s rfl) rfl rfl rfl rfl hT14 (hX.upR rfl hE14) (fun g14 e14 hI hX => ?_)
    rw [← e14] at p_a2
    rw [← e14] at p4
    rw [← e14] at p13
    refine ev_loc f_X11_rules (nx := 86) rfl rfl rfl rfl ?_
    refine ev_loc f_X11_rules (nx := 87) rfl rfl rfl rfl ?_
    refine ev_getR f_X11_rules (nx := 90) (v := .ref (ar2 + 2)) rfl (hI.wf.s rfl) rfl rfl (by rw [e14]; exact x_up2_at _ _ _ _ : g14 0 7 = .ref (ar2 + 2)) rfl rfl ?_
    refine ev_getI f_X11_rules (nx := 93) rfl p13.1 rfl rfl rfl ?_
    obtain ⟨l15, u15⟩ := hI.b p13.1 (t_bdK rfl : t_bd 6 0 = some (0, 12))
    refine ev_inV2 f_X11_rules (nx := 96) (lo2 := [(0, .ref 0), (1, .int (g7 (ar2 + 2) 0))]) rfl rfl rfl rfl f_X11_answer (hI.wf.s rfl) rfl rfl rfl rfl rfl ?_
    refine ev_loc f_X11_answer (nx := 1) rfl rfl rfl rfl ?_
    refine ev_ic f_X11_answer (nx := 2) (v := 0) rfl (by decide) rfl ?_
    refine ev_putIT f_X11_answer (nx := 5) rfl (hI.wf.s rfl) rfl rfl rfl (hI.put0 (hI.wf.s rfl) rfl rfl) (hX.upI rfl) (fun g16 e16 hI hX => ?_)
    refine ev_loc f_X11_answer (nx := 6) rfl rfl rfl rfl ?_
    refine ev_retK1 f_X11_answer rfl rfl rfl ?_
    exact ev_ret f_X11_rules rfl rfl rfl ⟨_, _, _, rfl, hI, hX, ⟨_, rfl, (Int.le_trans (by decide : ((-1):Int) ≤ 0) l15), u15, (show (∀ (b : Nat → Int32) (n : Nat), t_US b n 0 0 gi gl gr ar2 → (gi (ar2 + 2) 0).toInt = 0 → (∃ r : Nat, s_rls b n 301 0 0 0 = ((0, 0), r) ∧ (g7 (ar2 + 2) 0).toInt = (r : Int) ∧ (g16 0 8).toInt = 0 ∧ (g16 0 9).toInt = -1 ∧ g14 0 6 = gr 0 6 ∧ g14 0 7 = .ref (ar2 + 2) ∧ (g16 (ar2 + 2) 0).toInt = (r : Int)) ∨ (∃ p x, x ≠ 0 ∧ s_rls b n 301 0 0 0 = ((s_qb b n p x).1, 0) ∧ (g7 (ar2 + 2) 0).toInt = -1 ∧ (g16 0 8).toInt = s_fk b n p x ∧ (g16 0 9).toInt = (s_F b n p : Nat) ∧ g14 0 6 = gr 0 6 ∧ g14 0 7 = gr 0 7)) ∧ t_l0 ar2 gi gl gr g16 gl3 g14 from ⟨(by
                                                            intro b n h h0
                                                            have h102 := p_a2.2.1
                                                            obtain ⟨_, r, hX, hm, hf⟩ := (q3.1 b n 0 0 h h0).resolve_right (fun hh => absurd hh.1 (by omega))
                                                            refine Or.inl ⟨r, hX, ?_, ?_, ?_, ?_, (by rw [e14]; exact x_up2_at _ _ _ _ : g14 0 7 = .ref (ar2 + 2)), ?_⟩
                                                            · rw [e7, x_up2_ne (by omega), e6, x_up2_ne (by omega), e5, x_up2_ne (by omega)]; exact hm
                                                            · refine (congrArg Int32.toInt ((by rw [e16]; exact x_up2_off (Or.inr (by decide)) : g16 0 8 = g7 0 8).trans ((by rw [e7]; exact x_up2_off (Or.inr (by decide)) : g7 0 8 = g6 0 8).trans (by rw [e6]; exact x_up2_at _ _ _ _ : g6 0 8 = (g5 (ar2 + 1) 10))))).trans ?_; rw [e5, x_up2_ne (by omega)]; exact hf.1
                                                            · refine (congrArg Int32.toInt ((by rw [e16]; exact x_up2_off (Or.inr (by decide)) : g16 0 9 = g7 0 9).trans (by rw [e7]; exact x_up2_at _ _ _ _ : g7 0 9 = (g6 (ar2 + 1) 11)))).trans ?_; rw [e6, x_up2_ne (by omega), e5, x_up2_ne (by omega)]; exact hf.2
                                                            · rw [e14, x_up2_off (Or.inr (by decide))]; exact (hC3.1 0 6 rfl).2.2
                                                            · rw [e16, x_up2_ne (by omega), e7, x_up2_ne (by omega), e6, x_up2_ne (by omega), e5, x_up2_ne (by omega)]; exact hm), (fun K k0 hK => have q9 := q3.2 K hK; ⟨by rw [e16, x_up2_ne k0, e7, x_up2_ne k0, e6, x_up2_ne k0, e5, x_up2_ne k0]; exact q9.1, q9.2.1, by rw [e14, x_up2_ne k0]; exact q9.2.2⟩)⟩)⟩⟩
/-! ===== printed by riv.py: rules(), its reader made ===== -/
noncomputable def t_RSR (gi : Nat → Nat → Int32) (gl : Nat → Nat → Int64) (gr : Nat → Nat → Value) (N : Nat) (b : Nat → Int32) (n : Nat) (x : Int32) (g : Nat → Nat → Int32) (l : Nat → Nat → Int64) (r : Nat → Nat → Value) : Prop := ((∃ k : Nat, s_rls b n 301 0 0 0 = ((0, 0), k) ∧ x.toInt = (k : Int) ∧ (g 0 8).toInt = 0 ∧ (g 0 9).toInt = -1 ∧ r 0 6 = gr 0 6 ∧ r 0 7 = .ref (N + 2) ∧ (g (N + 2) 0).toInt = (k : Int)) ∨ (∃ p x2, x2 ≠ 0 ∧ s_rls b n 301 0 0 0 = ((s_qb b n p x2).1, 0) ∧ x.toInt = -1 ∧ (g 0 8).toInt = s_fk b n p x2 ∧ (g 0 9).toInt = (s_F b n p : Nat) ∧ r 0 6 = gr 0 6 ∧ r 0 7 = gr 0 7)) ∧ t_l0 N gi gl gr g l r
set_option maxHeartbeats 4000000 in
theorem c_u_rules {X : x_Ext} {d : Nat} {sh : List (Nat ⊕ (Nat × Nat))} {gi : Nat → Nat → Int32} {gl : Nat → Nat → Int64} {gr : Nat → Nat → Value} (hI : t_I sh gi gr) (hH : t_H sh) (ar1 : Int32) : x_Me X (d + 70) n_X11_rules [.ref 0, .int ar1] (sh, gi, gl, gr) (fun v G1 => ∃ sh1 g l r x, G1 = (sh1, g, l, r) ∧ v = some (.int x) ∧ ((0 ≤ ar1.toInt ∧ ar1.toInt ≤ (gi 0 5).toInt ∧ ar1.toInt ≤ 300) → ∀ n : Nat, (n : Int) = ar1.toInt → t_RSR gi gl gr sh.length (gi 2) n x g l r) ∧ (¬ (0 ≤ ar1.toInt ∧ ar1.toInt ≤ (gi 0 5).toInt ∧ ar1.toInt ≤ 300) → x.toInt = -1 ∧ (∀ K, K ≠ 0 → g K = gi K ∧ l K = gl K ∧ r K = gr K) ∧ r 0 6 = gr 0 6 ∧ r 0 7 = gr 0 7)) := by
  have hb0 := hI.b (hI.wf.s (k := 0) rfl) (t_bdK rfl : t_bd 10 5 = some (0, 900))
  refine me_i f_X11_rules (hI.wf.s rfl) rfl rfl rfl ?_
  refine ev_loc f_X11_rules (nx := 1) rfl rfl rfl rfl ?_
  refine ev_if f_X11_rules (t1 := 19) (t2 := 4) rfl rfl rfl (fun h1 => ?_) (fun h1 => ?_)
  · have h1 := Int32.lt_iff_toInt_lt.mp h1; have kf0 : (0 : Int32).toInt = 0 := (by decide); refine x_Ev.mono (x_Ev.up (c_t_rulesN (d := d) hI ar1) (by omega)) ?_; rintro v G1 ⟨g1, l1, r1, rfl, k1, k2, x, rfl, -, -, k3⟩; exact ⟨sh, g1, l1, r1, x, rfl, rfl, fun hi => absurd hi (by omega), fun _ => ⟨k3, fun K hK => t_row0 k2 rfl hK, (k2.1 0 6 rfl).2.2, (k2.1 0 7 rfl).2.2⟩⟩
  have h1 := Int32.le_iff_toInt_le.mp (t_nlt h1); have kf0 : (0 : Int32).toInt = 0 := (by decide)
  refine ev_loc f_X11_rules (nx := 5) rfl rfl rfl rfl ?_
  refine ev_loc f_X11_rules (nx := 6) rfl rfl rfl rfl ?_
  refine ev_getI f_X11_rules (nx := 9) rfl (hI.wf.s rfl) rfl rfl rfl ?_
  refine ev_if f_X11_rules (t1 := 19) (t2 := 12) rfl rfl rfl (fun h2 => ?_) (fun h2 => ?_)
  · have h2 := Int32.lt_iff_toInt_lt.mp h2; refine x_Ev.mono (x_Ev.up (c_t_rulesN (d := d) hI ar1) (by omega)) ?_; rintro v G1 ⟨g1, l1, r1, rfl, k1, k2, x, rfl, -, -, k3⟩; exact ⟨sh, g1, l1, r1, x, rfl, rfl, fun hi => absurd hi (by omega), fun _ => ⟨k3, fun K hK => t_row0 k2 rfl hK, (k2.1 0 6 rfl).2.2, (k2.1 0 7 rfl).2.2⟩⟩
  have h2 := Int32.le_iff_toInt_le.mp (t_nlt h2)
  refine ev_loc f_X11_rules (nx := 13) rfl rfl rfl rfl ?_
  refine ev_sp f_X11_rules (nx := 16) (v := 300) rfl (by decide) rfl ?_
  refine ev_if f_X11_rules (t1 := 25) (t2 := 19) rfl rfl rfl (fun h3 => ?_) (fun h3 => ?_)
  rotate_left
  · have h3 := Int32.lt_iff_toInt_lt.mp (t_nle h3); have kf1 : (300 : Int32).toInt = 300 := (by decide); refine x_Ev.mono (x_Ev.up (c_t_rulesN (d := d) hI ar1) (by omega)) ?_; rintro v G1 ⟨g1, l1, r1, rfl, k1, k2, x, rfl, -, -, k3⟩; exact ⟨sh, g1, l1, r1, x, rfl, rfl, fun hi => absurd hi (by omega), fun _ => ⟨k3, fun K hK => t_row0 k2 rfl hK, (k2.1 0 6 rfl).2.2, (k2.1 0 7 rfl).2.2⟩⟩
  have h3 := Int32.le_iff_toInt_le.mp h3; have kf1 : (300 : Int32).toInt = 300 := (by decide)
  have hin : (0 ≤ ar1.toInt ∧ ar1.toInt ≤ (gi 0 5).toInt ∧ ar1.toInt ≤ 300) := by omega
  have lx : (0:Int) ≤ ar1.toInt := by omega
  have ux : ar1.toInt ≤ (900:Int) := by omega
  obtain ⟨N, hN⟩ : ∃ N, sh.length = N := ⟨_, rfl⟩
  rw [hN]
  have h102 := t_102 hI.wf
  rw [hN] at h102
  have hG := t_G.refl (N := N) (r := N) (gi0 := gi) (gl0 := gl) (gr0 := gr) hN (fun ci j lo hi hk ht => absurd (t_lt hk) (by omega))
  rw [show ((sh, gi, gl, gr) : x_G) = (sh ++ [], gi, gl, gr) by rw [List.append_nil]]
  refine ev_newG f_X11_rules (nx := 28) (c := 0) (ext' := [.inl 7]) rfl rfl rfl hN rfl rfl hG (fun a101 b101 g101 ea101 eb101 e101 hG => ?_)
  refine ev_alu f_X11_rules (nx := 29) rfl rfl rfl rfl ?_
  refine ev_newG f_X11_rules (nx := 32) (c := 1) (ext' := [.inl 7, .inl 8]) rfl rfl rfl hN rfl rfl hG (fun a102 b102 g102 ea102 eb102 e102 hG => ?_)
  refine ev_alu f_X11_rules (nx := 33) rfl rfl rfl rfl ?_
  refine ev_loc f_X11_rules (nx := 34) rfl rfl rfl rfl ?_
  refine ev_getR f_X11_rules (nx := 37) rfl (t_sl (hI.wf.s rfl)) rfl rfl ((congrFun (hG.1 0 (by omega) (by omega)).2.2 4).trans (hI.wf.r rfl)) rfl rfl ?_
  refine ev_loc f_X11_rules (nx := 38) rfl rfl rfl rfl ?_
  refine ev_inV3 f_X11_rules (nx := 41) (lo2 := [(0, .ref (N + 1)), (1, .ref 2), (2, .int ar1)]) rfl rfl rfl rfl f_X9_init ((t_sx hN).trans rfl) rfl rfl rfl rfl rfl ?_
  refine ev_loc f_X9_init (nx := 1) rfl rfl rfl rfl ?_
  refine ev_obj f_X9_init (nx := 4) rfl rfl (by omega) (by decide) rfl ?_
  refine ev_loc f_X9_init (nx := 5) rfl rfl rfl rfl ?_
  refine ev_ic f_X9_init (nx := 6) (v := 0) rfl (by decide) rfl ?_
  refine ev_putIG f_X9_init (nx := 9) rfl ((t_sx hN).trans rfl) rfl rfl rfl (hG.putI (Or.inl (by omega)) ((t_sx hN).trans rfl) (fun lo hi e => by have e : some ((0 : Int), (900 : Int)) = some (lo, hi) := e; cases e; exact ⟨by decide, by decide⟩) (fun _ => rfl)) (fun a103 ea103 hG => ?_)
  refine ev_loc f_X9_init (nx := 10) rfl rfl rfl rfl ?_
  refine ev_ic f_X9_init (nx := 11) (v := 3) rfl (by decide) rfl ?_
  refine ev_putIG f_X9_init (nx := 14) rfl ((t_sx hN).trans rfl) rfl rfl rfl (hG.putI (Or.inl (by omega)) ((t_sx hN).trans rfl) (fun lo hi e => by have e : (none : Option (Int × Int)) = some (lo, hi) := e; cases e) (fun h => absurd h (by decide))) (fun a104 ea104 hG => ?_)
  refine ev_loc f_X9_init (nx := 15) rfl rfl rfl rfl ?_
  refine ev_ic f_X9_init (nx := 16) (v := 0) rfl (by decide) rfl ?_
  refine ev_putIG f_X9_init (nx := 19) rfl ((t_sx hN).trans rfl) rfl rfl rfl (hG.putI (Or.inl (by omega)) ((t_sx hN).trans rfl) (fun lo hi e => by have e : some ((0 : Int), (900 : Int)) = some (lo, hi) := e; cases e; exact ⟨by decide, by decide⟩) (fun _ => rfl)) (fun a105 ea105 hG => ?_)
  refine ev_loc f_X9_init (nx := 20) rfl rfl rfl rfl ?_
  refine ev_ic f_X9_init (nx := 21) (v := 0) rfl (by decide) rfl ?_
  refine ev_putIG f_X9_init (nx := 24) rfl ((t_sx hN).trans rfl) rfl rfl rfl (hG.putI (Or.inl (by omega)) ((t_sx hN).trans rfl) (fun lo hi e => by have e : (none : Option (Int × Int)) = some (lo, hi) := e; cases e) (fun _ => rfl)) (fun a106 ea106 hG => ?_)
  refine ev_loc f_X9_init (nx := 25) rfl rfl rfl rfl ?_
  refine ev_lc f_X9_init (nx := 26) (v := 0) rfl (by decide) rfl ?_
  refine ev_putLG f_X9_init (nx := 29) rfl ((t_sx hN).trans rfl) rfl rfl rfl (hG.putL (Or.inl (by omega))) (fun b107 eb107 hG => ?_)
  refine ev_loc f_X9_init (nx := 30) rfl rfl rfl rfl ?_
  refine ev_alu f_X9_init (nx := 31) rfl rfl rfl rfl ?_
  refine ev_putRG f_X9_init (nx := 34) rfl ((t_sx hN).trans rfl) rfl rfl rfl rfl (hG.putR (Or.inl (by omega)) ((t_sx hN).trans rfl) (fun h8 h7 => Or.inl rfl)) (fun g108 e108 hG => ?_)
  refine ev_loc f_X9_init (nx := 35) rfl rfl rfl rfl ?_
  refine ev_ic f_X9_init (nx := 36) (v := 0) rfl (by decide) rfl ?_
  refine ev_putIG f_X9_init (nx := 39) rfl ((t_sx hN).trans rfl) rfl rfl rfl (hG.putI (Or.inl (by omega)) ((t_sx hN).trans rfl) (fun lo hi e => by have e : (none : Option (Int × Int)) = some (lo, hi) := e; cases e) (fun _ => rfl)) (fun a109 ea109 hG => ?_)
  refine ev_loc f_X9_init (nx := 40) rfl rfl rfl rfl ?_
  refine ev_ic f_X9_init (nx := 41) (v := 0) rfl (by decide) rfl ?_
  refine ev_putIG f_X9_init (nx := 44) rfl ((t_sx hN).trans rfl) rfl rfl rfl (hG.putI (Or.inl (by omega)) ((t_sx hN).trans rfl) (fun lo hi e => by have e : (none : Option (Int × Int)) = some (lo, hi) := e; cases e) (fun _ => rfl)) (fun a110 ea110 hG => ?_)
  refine ev_loc f_X9_init (nx := 45) rfl rfl rfl rfl ?_
  refine ev_ic f_X9_init (nx := 46) (v := 0) rfl (by decide) rfl ?_
  refine ev_putIG f_X9_init (nx := 49) rfl ((t_sx hN).trans rfl) rfl rfl rfl (hG.putI (Or.inl (by omega)) ((t_sx hN).trans rfl) (fun lo hi e => by have e : (none : Option (Int × Int)) = some (lo, hi) := e; cases e) (fun _ => rfl)) (fun a111 ea111 hG => ?_)
  refine ev_loc f_X9_init (nx := 50) rfl rfl rfl rfl ?_
  refine ev_ic f_X9_init (nx := 51) (v := -1) rfl (by decide) rfl ?_
  refine ev_putIG f_X9_init (nx := 54) rfl ((t_sx hN).trans rfl) rfl rfl rfl (hG.putI (Or.inl (by omega)) ((t_sx hN).trans rfl) (fun lo hi e => by have e : (none : Option (Int × Int)) = some (lo, hi) := e; cases e) (fun h => absurd h (by decide))) (fun a112 ea112 hG => ?_)
  refine ev_loc f_X9_init (nx := 55) rfl rfl rfl rfl ?_
  refine ev_loc f_X9_init (nx := 56) rfl rfl rfl rfl ?_
  refine ev_putRG f_X9_init (nx := 59) rfl ((t_sx hN).trans rfl) rfl rfl rfl rfl (hG.putR (Or.inl (by omega)) ((t_sx hN).trans rfl) (fun h8 h7 => absurd h7 (by decide))) (fun g113 e113 hG => ?_)
  refine ev_loc f_X9_init (nx := 60) rfl rfl rfl rfl ?_
  refine ev_loc f_X9_init (nx := 61) rfl rfl rfl rfl ?_
  refine ev_loc f_X9_init (nx := 62) rfl rfl rfl rfl ?_
  refine ev_alenv f_X9_init (nx := 63) (w := 900) rfl (t_sl (hI.wf.s rfl)) rfl (by decide) rfl ?_
  refine ev_minE f_X9_init (nx := 66) (l := 0) (u := 900) rfl rfl (by omega) rfl lx ux (by decide : (900:Int) ≤ (900:Int32).toInt) (by decide : (900:Int32).toInt ≤ (900:Int)) (by decide) (by decide) rfl (fun w114 e114 l114 u114 => ?_)
  refine ev_putIG f_X9_init (nx := 69) rfl ((t_sx hN).trans rfl) rfl rfl rfl (hG.putI (Or.inl (by omega)) ((t_sx hN).trans rfl) (fun lo hi e => by have e : some ((0 : Int), (900 : Int)) = some (lo, hi) := e; cases e; exact ⟨l114, u114⟩) (fun h => absurd h (by decide))) (fun a115 ea115 hG => ?_)
  refine ev_loc f_X9_init (nx := 70) rfl rfl rfl rfl ?_
  have hI1 := hG.I hN hI hH (by omega) (fun s hs => absurd (t_lt hs) (by omega))
  have hTk : t_Tk (sh ++ ([.inl 7, .inl 8] : List (Nat ⊕ (Nat × Nat)))) g113 (N + 1) := ⟨(t_sx hN).trans rfl, (by rw [e113]; exact x_up2_at _ _ _ _)⟩
  have i1_1 : a115 (N + 1) 1 = w114 := by rw [ea115, x_up2_at]
  have i1_2 : a115 (N + 1) 2 = 0 := by rw [ea115, x_up2_off (Or.inr (by decide)), ea112, x_up2_off (Or.inr (by decide)), ea111, x_up2_off (Or.inr (by decide)), ea110, x_up2_off (Or.inr (by decide)), ea109, x_up2_off (Or.inr (by decide)), ea106, x_up2_off (Or.inr (by decide)), ea105, x_up2_off (Or.inr (by decide)), ea104, x_up2_off (Or.inr (by decide)), ea103, x_up2_at]
  have i1_10 : a115 (N + 1) 10 = 0 := by rw [ea115, x_up2_off (Or.inr (by decide)), ea112, x_up2_off (Or.inr (by decide)), ea111, x_up2_at]
  have i1_11 : a115 (N + 1) 11 = (-1) := by rw [ea115, x_up2_off (Or.inr (by decide)), ea112, x_up2_at]
  have hS : t_Sp (gi 2) ar1.toNatClampNeg 0 a115 (N + 1) := ⟨(hG.1 2 (by omega) (by omega)).1, by rw [i1_1]; have hc := t_clamp (i := ar1) lx; have h9 : (900 : Int32).toInt = 900 := rfl; omega, by rw [i1_2]; rfl, Nat.zero_le _⟩
  have hG1 := hG
  have hX : t_X wl_s_step (sh ++ ([.inl 7, .inl 8] : List (Nat ⊕ (Nat × Nat)))) a115 b107 g113 a115 b107 g113 := t_X.rf
  refine ev_qN f_X9_init (nx := 73) (r := []) rfl rfl rfl rfl rfl rfl rfl (x_Me.up (c_s_step (d := d) hI1 (N + 1) hTk) (by omega)) rfl hX rfl (fun gi1 gl1 gr1 hI2 hX1 _ qs => ?_)
  have hT1 := qs.1 (gi 2) _ 0 hS
  have hF1 : t_FL gi1 (N + 1) 0 (-1) := ⟨by rw [qs.2.1.1, i1_10]; rfl, by rw [qs.2.1.2, i1_11]; rfl⟩
  replace hTk := hTk.ext hX1.2
  have hN2 : (sh ++ ([.inl 7, .inl 8] : List (Nat ⊕ (Nat × Nat)))).length = N + 2 := by rw [List.length_append, hN]; rfl
  have hG := t_G.refl (N := N + 2) (r := N + 0) (gi0 := gi1) (gl0 := gl1) (gr0 := gr1) hN2 (fun ci j lo hi hk ht => hI2.b hk ht)
  rw [show (((sh ++ ([.inl 7, .inl 8] : List (Nat ⊕ (Nat × Nat)))), gi1, gl1, gr1) : x_G) = ((sh ++ ([.inl 7, .inl 8] : List (Nat ⊕ (Nat × Nat)))) ++ [], gi1, gl1, gr1) by rw [List.append_nil]]
  refine ev_retK0 f_X9_init rfl rfl rfl ?_
  refine ev_newG f_X11_rules (nx := 44) (c := 0) (ext' := [.inl 6]) rfl rfl rfl hN2 rfl rfl hG (fun a116 b116 g116 ea116 eb116 e116 hG => ?_)
  refine ev_alu f_X11_rules (nx := 45) rfl rfl rfl rfl ?_
  refine ev_loc f_X11_rules (nx := 46) rfl rfl rfl rfl ?_
  refine ev_inV2 f_X11_rules (nx := 49) (lo2 := [(0, .ref (N + 2 + 0)), (1, .int ar1)]) rfl rfl rfl rfl f_X7_init ((t_sx hN2).trans rfl) rfl rfl rfl rfl rfl ?_
  refine ev_loc f_X7_init (nx := 1) rfl rfl rfl rfl ?_
  refine ev_obj f_X7_init (nx := 4) rfl rfl (by omega) (by decide) rfl ?_
  refine ev_loc f_X7_init (nx := 5) rfl rfl rfl rfl ?_
  refine ev_ic f_X7_init (nx := 6) (v := 0) rfl (by decide) rfl ?_
  refine ev_putIG f_X7_init (nx := 9) rfl ((t_sx hN2).trans rfl) rfl rfl rfl (hG.putI (Or.inl (by omega)) ((t_sx hN2).trans rfl) (fun lo hi e => by have e : some ((0 : Int), (12 : Int)) = some (lo, hi) := e; cases e; exact ⟨by decide, by decide⟩) (fun _ => rfl)) (fun a117 ea117 hG => ?_)
  refine ev_loc f_X7_init (nx := 10) rfl rfl rfl rfl ?_
  refine ev_bp f_X7_init (nx := 12) (v := 12) rfl (by decide) rfl ?_
  refine ev_arrG f_X7_init (nx := 14) (c := 1) (m := 12) (ext' := [.inl 6, .inr (0, 12)]) rfl rfl (by decide) rfl (by decide) rfl hN2 rfl rfl hG (fun a118 b118 g118 ea118 eb118 e118 hG => ?_)
  refine ev_putRG f_X7_init (nx := 17) rfl ((t_sx hN2).trans rfl) rfl rfl rfl rfl (hG.putR (Or.inl (by omega)) ((t_sx hN2).trans rfl) (fun h8 h7 => absurd h8 (by decide))) (fun g119 e119 hG => ?_)
  refine ev_loc f_X7_init (nx := 18) rfl rfl rfl rfl ?_
  refine ev_bp f_X7_init (nx := 20) (v := 12) rfl (by decide) rfl ?_
  refine ev_arrG f_X7_init (nx := 22) (c := 2) (m := 12) (ext' := [.inl 6, .inr (0, 12), .inr (0, 12)]) rfl rfl (by decide) rfl (by decide) rfl hN2 rfl rfl hG (fun a120 b120 g120 ea120 eb120 e120 hG => ?_)
  refine ev_putRG f_X7_init (nx := 25) rfl ((t_sx hN2).trans rfl) rfl rfl rfl rfl (hG.putR (Or.inl (by omega)) ((t_sx hN2).trans rfl) (fun h8 h7 => absurd h8 (by decide))) (fun g121 e121 hG => ?_)
  refine ev_loc f_X7_init (nx := 26) rfl rfl rfl rfl ?_
  refine ev_ic f_X7_init (nx := 27) (v := 0) rfl (by decide) rfl ?_
  refine ev_putIG f_X7_init (nx := 30) rfl ((t_sx hN2).trans rfl) rfl rfl rfl (hG.putI (Or.inl (by omega)) ((t_sx hN2).trans rfl) (fun lo hi e => by have e : some ((0 : Int), (300 : Int)) = some (lo, hi) := e; cases e; exact ⟨by decide, by decide⟩) (fun _ => rfl)) (fun a122 ea122 hG => ?_)
  refine ev_loc f_X7_init (nx := 31) rfl rfl rfl rfl ?_
  refine ev_ic f_X7_init (nx := 32) (v := 0) rfl (by decide) rfl ?_
  refine ev_mm f_X7_init (nx := 35) rfl rfl rfl (by omega) (by decide) rfl ?_
  rw [t_mx lx]
  refine ev_loc f_X7_init (nx := 36) (lo' := [(2, .int ar1), (0, .ref (N + 2 + 0)), (1, .int ar1)]) rfl rfl rfl rfl ?_
  refine ev_loc f_X7_init (nx := 37) rfl rfl rfl rfl ?_
  refine ev_loc f_X7_init (nx := 38) rfl rfl rfl rfl ?_
  refine ev_arrG f_X7_init (nx := 40) (c := 3) (m := ar1.toNatClampNeg) (ext' := [.inl 6, .inr (0, 12), .inr (0, 12), .inr (0, ar1.toNatClampNeg)]) rfl rfl lx rfl (decide_eq_true (by have hc := t_clamp (i := ar1) lx; omega)) rfl hN2 rfl rfl hG (fun a124 b124 g124 ea124 eb124 e124 hG => ?_)
  refine ev_putRG f_X7_init (nx := 43) rfl ((t_sx hN2).trans rfl) rfl rfl rfl rfl (hG.putR (Or.inl (by omega)) ((t_sx hN2).trans rfl) (fun h8 h7 => absurd h8 (by decide))) (fun g125 e125 hG => ?_)
  refine ev_loc f_X7_init (nx := 44) rfl rfl rfl rfl ?_
  refine ev_loc f_X7_init (nx := 45) rfl rfl rfl rfl ?_
  refine ev_arrG f_X7_init (nx := 47) (c := 4) (m := ar1.toNatClampNeg) (ext' := [.inl 6, .inr (0, 12), .inr (0, 12), .inr (0, ar1.toNatClampNeg), .inr (0, ar1.toNatClampNeg)]) rfl rfl lx rfl (decide_eq_true (by have hc := t_clamp (i := ar1) lx; omega)) rfl hN2 rfl rfl hG (fun a126 b126 g126 ea126 eb126 e126 hG => ?_)
  refine ev_putRG f_X7_init (nx := 50) rfl ((t_sx hN2).trans rfl) rfl rfl rfl rfl (hG.putR (Or.inl (by omega)) ((t_sx hN2).trans rfl) (fun h8 h7 => absurd h8 (by decide))) (fun g127 e127 hG => ?_)
  refine ev_loc f_X7_init (nx := 51) rfl rfl rfl rfl ?_
  refine ev_loc f_X7_init (nx := 52) rfl rfl rfl rfl ?_
  refine ev_arrG f_X7_init (nx := 54) (c := 5) (m := ar1.toNatClampNeg) (ext' := [.inl 6, .inr (0, 12), .inr (0, 12), .inr (0, ar1.toNatClampNeg), .inr (0, ar1.toNatClampNeg), .inr (0, ar1.toNatClampNeg)]) rfl rfl lx rfl (decide_eq_true (by have hc := t_clamp (i := ar1) lx; omega)) rfl hN2 rfl rfl hG (fun a128 b128 g128 ea128 eb128 e128 hG => ?_)
  refine ev_putRG f_X7_init (nx := 57) rfl ((t_sx hN2).trans rfl) rfl rfl rfl rfl (hG.putR (Or.inl (by omega)) ((t_sx hN2).trans rfl) (fun h8 h7 => absurd h8 (by decide))) (fun g129 e129 hG => ?_)
  refine ev_retK0 f_X7_init rfl rfl rfl ?_
  refine ev_inV3 f_X11_rules (nx := 52) (lo2 := [(0, .ref (N + 0)), (1, .ref (N + 1)), (2, .ref (N + 2 + 0))]) rfl rfl rfl rfl f_X8_init (t_sl ((t_sx hN).trans rfl)) rfl rfl rfl rfl rfl ?_
  refine ev_loc f_X8_init (nx := 1) rfl rfl rfl rfl ?_
  refine ev_obj f_X8_init (nx := 4) rfl rfl (by omega) (by decide) rfl ?_
  refine ev_loc f_X8_init (nx := 5) rfl rfl rfl rfl ?_
  refine ev_ic f_X8_init (nx := 6) (v := 0) rfl (by decide) rfl ?_
  refine ev_putIG f_X8_init (nx := 9) rfl (t_sl ((t_sx hN).trans rfl)) rfl rfl rfl (hG.putI (Or.inr rfl) (t_sl ((t_sx hN).trans rfl)) (fun lo hi e => by have e : (none : Option (Int × Int)) = some (lo, hi) := e; cases e) (fun _ => rfl)) (fun a130 ea130 hG => ?_)
  refine ev_loc f_X8_init (nx := 10) rfl rfl rfl rfl ?_
  refine ev_loc f_X8_init (nx := 11) rfl rfl rfl rfl ?_
  refine ev_putRG f_X8_init (nx := 14) rfl (t_sl ((t_sx hN).trans rfl)) rfl rfl rfl rfl (hG.putR (Or.inr rfl) (t_sl ((t_sx hN).trans rfl)) (fun h8 h7 => absurd h8 (by decide))) (fun g131 e131 hG => ?_)
  refine ev_loc f_X8_init (nx := 15) rfl rfl rfl rfl ?_
  refine ev_loc f_X8_init (nx := 16) rfl rfl rfl rfl ?_
  refine ev_putRG f_X8_init (nx := 19) rfl (t_sl ((t_sx hN).trans rfl)) rfl rfl rfl rfl (hG.putR (Or.inr rfl) (t_sl ((t_sx hN).trans rfl)) (fun h8 h7 => absurd h8 (by decide))) (fun g132 e132 hG => ?_)
  refine ev_retK0 f_X8_init rfl rfl rfl ?_
  refine ev_loc f_X11_rules (nx := 53) (lo' := [(2, .ref (N + 0)), (0, .ref 0), (1, .int ar1)]) rfl rfl rfl rfl ?_
  have hI3 := hG.I hN2 hI2 (t_H_ext hH (t_he rfl)) (by omega) (fun s hs => Or.inr (by rw [(t_sx hN).trans rfl] at hs; cases hs; rfl))
  have hRu : t_Ru ((sh ++ ([.inl 7, .inl 8] : List (Nat ⊕ (Nat × Nat)))) ++ [.inl 6, .inr (0, 12), .inr (0, 12), .inr (0, ar1.toNatClampNeg), .inr (0, ar1.toNatClampNeg), .inr (0, ar1.toNatClampNeg)]) g132 (N + 2) := ⟨(t_sx (i := 0) hN2).trans rfl, by omega, (by rw [e132, x_up2_off (Or.inl (by omega)), e131, x_up2_off (Or.inl (by omega)), e129, x_up2_off (Or.inr (by decide)), e128, x_clr_ne (by omega), e127, x_up2_off (Or.inr (by decide)), e126, x_clr_ne (by omega), e125, x_up2_off (Or.inr (by decide)), e124, x_clr_ne (by omega), e121, x_up2_off (Or.inr (by decide)), e120, x_clr_ne (by omega), e119]; exact x_up2_at _ _ _ _), (by rw [e132, x_up2_off (Or.inl (by omega)), e131, x_up2_off (Or.inl (by omega)), e129, x_up2_off (Or.inr (by decide)), e128, x_clr_ne (by omega), e127, x_up2_off (Or.inr (by decide)), e126, x_clr_ne (by omega), e125, x_up2_off (Or.inr (by decide)), e124, x_clr_ne (by omega), e121]; exact x_up2_at _ _ _ _), (t_sx (i := 1) hN2).trans rfl, (t_sx (i := 2) hN2).trans rfl, ar1.toNatClampNeg, by have hc := t_clamp (i := ar1) lx; omega, (by rw [e132, x_up2_off (Or.inl (by omega)), e131, x_up2_off (Or.inl (by omega)), e129, x_up2_off (Or.inr (by decide)), e128, x_clr_ne (by omega), e127, x_up2_off (Or.inr (by decide)), e126, x_clr_ne (by omega), e125]; exact x_up2_at _ _ _ _), (by rw [e132, x_up2_off (Or.inl (by omega)), e131, x_up2_off (Or.inl (by omega)), e129, x_up2_off (Or.inr (by decide)), e128, x_clr_ne (by omega), e127]; exact x_up2_at _ _ _ _), (by rw [e132, x_up2_off (Or.inl (by omega)), e131, x_up2_off (Or.inl (by omega)), e129]; exact x_up2_at _ _ _ _), (t_sx (i := 3) hN2).trans rfl, (t_sx (i := 4) hN2).trans rfl, (t_sx (i := 5) hN2).trans rfl⟩
  have f0 : g132 (N + 0) 0 = .ref (N + 1) := (by rw [e132, x_up2_off (Or.inr (by decide)), e131]; exact x_up2_at _ _ _ _)
  have f1 : g132 (N + 0) 1 = .ref (N + 2 + 0) := (by rw [e132]; exact x_up2_at _ _ _ _)
  have hTk2 : t_Tk ((sh ++ ([.inl 7, .inl 8] : List (Nat ⊕ (Nat × Nat)))) ++ [.inl 6, .inr (0, 12), .inr (0, 12), .inr (0, ar1.toNatClampNeg), .inr (0, ar1.toNatClampNeg), .inr (0, ar1.toNatClampNeg)]) g132 (N + 1) := ⟨t_sl ((t_sx hN).trans rfl), (congrFun (hG.1 (N + 1) (by omega) (by omega)).2.2 0).trans hTk.2⟩
  have hR : t_UQ ((sh ++ ([.inl 7, .inl 8] : List (Nat ⊕ (Nat × Nat)))) ++ [.inl 6, .inr (0, 12), .inr (0, 12), .inr (0, ar1.toNatClampNeg), .inr (0, ar1.toNatClampNeg), .inr (0, ar1.toNatClampNeg)]) g132 N := ⟨t_sl ((t_sx (i := 0) hN).trans rfl), by omega, ⟨f0, hTk2⟩, f1, hRu⟩
  have zR2 : (a130 (N + 0) 2).toInt = 0 := by rw [ea130, x_up2_at]; rfl
  have zV0 : (a130 (N + 2 + 0) 0).toInt = 0 := by rw [ea130, x_up2_off (Or.inl (by omega)), ea128, x_clr_ne (by omega), ea126, x_clr_ne (by omega), ea124, x_clr_ne (by omega), ea122, x_up2_off (Or.inr (by decide)), ea120, x_clr_ne (by omega), ea118, x_clr_ne (by omega), ea117, x_up2_at]; rfl
  have hT2 := hT1.eq (g1 := a130) (l1 := b128) (r1 := g132) (hG.1 2 (by omega) (by omega)).1 (hG.1 (N + 1) (by omega) (by omega)).1 (hG.1 (N + 1) (by omega) (by omega)).2.1 (hG.1 (N + 1) (by omega) (by omega)).2.2
  have hF2 : t_FL a130 (N + 1) 0 (-1) := by rw [t_FL, (hG.1 (N + 1) (by omega) (by omega)).1]; exact hF1
  refine ev_sub (lo := [(0, .ref 0), (1, .int ar1), (2, .ref (N + 0))]) rfl (t_sc rfl (t_sc rfl (t_sc rfl t_sn))) ?_
  refine x_Ev.mono (x_Ev.up (c_u_rulesT (d := d) hI3 ar1 N hR) (by omega)) ?_
  rintro v G1 ⟨g1, l1, r1, rfl, k1, k2, x, rfl, -, -, k3, k4⟩
  refine ⟨_, g1, l1, r1, x, rfl, rfl, fun _ n hn => ?_, fun hh => absurd hin hh⟩
  have en : n = ar1.toNatClampNeg := by have hc := t_clamp (i := ar1) lx; omega
  subst en
  have hr6 : g132 0 6 = gr 0 6 := by rw [(hG.1 0 (by omega) (by omega)).2.2, (hX1.1 0 6 rfl).2.2, (hG1.1 0 (by omega) (by omega)).2.2]
  have hr7 : g132 0 7 = gr 0 7 := by rw [(hG.1 0 (by omega) (by omega)).2.2, (hX1.1 0 7 rfl).2.2, (hG1.1 0 (by omega) (by omega)).2.2]
  refine ⟨(k3 _ _ ⟨hT2, ⟨by have hc := t_clamp (i := ar1) lx; omega, zR2⟩, hF2⟩ zV0).imp ?_ ?_, fun K k0 hK => ?_⟩
  · rintro ⟨kk, a1, a2, a3, a4, a5, a6, a7⟩
    exact ⟨kk, a1, a2, a3, a4, a5.trans hr6, a6, a7⟩
  · rintro ⟨p, x2, a1, a2, a3, a4, a5, a6, a7⟩
    exact ⟨p, x2, a1, a2, a3, a4, a5, a6.trans hr6, a7.trans hr7⟩
  · have f1 := k4 K k0 hK
    have f2 := hG.1 K (by omega) (by omega)
    have f3 := qs.2.2 K (by omega)
    have f4 := hG1.1 K (by omega) (by omega)
    exact ⟨f1.1.trans (f2.1.trans (f3.1.trans f4.1)), f1.2.1.trans (f2.2.1.trans (f3.2.1.trans f4.2.1)), f1.2.2.trans (f2.2.2.trans (f3.2.2.trans f4.2.2))⟩
/-! ===== what a RIVER holds, on both sides, through the law's loop ===== -/
noncomputable def t_ME (o : Nat) (gi : Nat → Nat → Int32) (D : s_D) : Prop := (((gi 70 o).toInt = D 0 ∧ (gi 70 (o + 1)).toInt = D 1 ∧ (gi 70 (o + 2)).toInt = D 2) ∧ (gi 70 (o + 4)).toInt = D 4 ∧ (gi 70 (o + 5)).toInt = D 5 ∧ (gi 70 (o + 6)).toInt = D 6 ∧ (gi 70 (o + 7)).toInt = D 7) ∧ (∀ i : Nat, (i : Int) < D 0 → t_prt (fun t => gi 70 (o + 10 + 7 * i + t)) (D (10 + i))) ∧ (∀ j : Nat, 52 ≤ j → (j : Int) < 52 + 5 * D 1 → (gi 70 (o + j)).toInt = D j) ∧ ∀ j : Nat, 82 ≤ j → (j : Int) < 82 + 3 * D 2 → (gi 70 (o + j)).toInt = D j
noncomputable def t_CV (gi : Nat → Nat → Int32) (gl : Nat → Nat → Int64) (v : Nat) (D : s_D) : Prop := ((gi v 0).toInt = D 0 ∧ ∀ i : Nat, (i : Int) < D 0 → (gl (v + 1) i).toInt = D (10 + i) ∧ gl (v + 2) i = s_snd (gl (v + 1) i)) ∧ ((gi v 3).toInt = D 4 ∧ (gi v 4).toInt = D 5 ∧ (gi v 5).toInt = D 6 ∧ (gi v 6).toInt = D 7) ∧ ((gi (v + 3) 0).toInt = D 1 ∧ ∀ s : Nat, (s : Int) < D 1 → (gi (v + 9) s).toInt = D (52 + 5 * s) ∧ (gi (v + 3 + 2) s).toInt = D (53 + 5 * s) ∧ (gi (v + 3 + 3) s).toInt = D (54 + 5 * s) ∧ (gi (v + 3 + 4) s).toInt = D (55 + 5 * s) ∧ (gi (v + 3 + 5) s).toInt = D (56 + 5 * s)) ∧ (gi (v + 10) 0).toInt = D 2 ∧ ∀ c : Nat, (c : Int) < D 2 → (gi (v + 10 + 2) c).toInt = D (82 + 3 * c) ∧ (gi (v + 10 + 3) c).toInt = D (83 + 3 * c) ∧ (gi (v + 10 + 4) c).toInt = D (84 + 3 * c) ∧ (gi (v + 10 + 5) c).toInt = 0
/-- the class's RIVER at v, of n cells, and the other side's slot at o hold the same -/
noncomputable def t_DS (n : Nat) (gi : Nat → Nat → Int32) (gl : Nat → Nat → Int64) (gr : Nat → Nat → Value) (v o : Nat) : Prop := ∃ D : s_D, t_Cb D ∧ ((v = 3 ∨ 102 ≤ v) ∧ v + 16 ≤ n) ∧ t_VL gr v ∧ t_CV gi gl v D ∧ t_ME o gi D
noncomputable def t_DR (n : Nat) (gi : Nat → Nat → Int32) (gl : Nat → Nat → Int64) (gr : Nat → Nat → Value) : Prop := (∃ v, gr 0 6 = .ref v ∧ t_DS n gi gl gr v 0) ∧ ∀ k : Nat, (k : Int) < (gi 0 12).toInt → ∃ v, gr 19 k = .ref v ∧ t_DS n gi gl gr v (350 * (k + 1))
noncomputable def t_ndB (wl : List (Nat × Nat)) : Bool := wl.all (fun q => Nat.blt q.1 102 && !(Nat.ble 3 q.1 && Nat.blt q.1 19))
section DREL
variable {sh sh2 : List (Nat ⊕ (Nat × Nat))} {gi g1 g2 : Nat → Nat → Int32} {gl l1 l2 : Nat → Nat → Int64} {gr r1 r2 : Nat → Nat → Value} {D : s_D} {w w1 w2 : List (Nat × Nat)} {n n' v o o' : Nat}
theorem t_MD.e (h : t_MD o gi D) : t_ME o gi D := ⟨h.1, h.2.1, h.2.2.1, h.2.2.2.1⟩
theorem t_ME.mv (h : t_ME o gi D) (hb : t_Cb D) (e : ∀ j, j < 100 → j ≠ 3 → j ≠ 8 → g1 70 (o' + j) = gi 70 (o + j)) : t_ME o' g1 D := by
  obtain ⟨⟨⟨a0, a1, a2⟩, a4, a5, a6, a7⟩, hp, hs, hc⟩ := h
  obtain ⟨⟨b1, b2⟩, ⟨b3, b4⟩, b5, b6⟩ := hb
  have e0 : g1 70 o' = gi 70 o := e 0 (by decide) (by decide) (by decide)
  refine ⟨⟨⟨by rw [e0]; exact a0, by rw [e 1 (by decide) (by decide) (by decide)]; exact a1, by rw [e 2 (by decide) (by decide) (by decide)]; exact a2⟩, by rw [e 4 (by decide) (by decide) (by decide)]; exact a4, by rw [e 5 (by decide) (by decide) (by decide)]; exact a5, by rw [e 6 (by decide) (by decide) (by decide)]; exact a6, by rw [e 7 (by decide) (by decide) (by decide)]; exact a7⟩, fun i hi => ?_, fun j hj hj2 => ?_, fun j hj hj2 => ?_⟩
  · refine t_prt_cg (hp i hi) (fun t ht => ?_)
    show g1 70 (o' + 10 + 7 * i + t) = gi 70 (o + 10 + 7 * i + t)
    have h1 := e (10 + 7 * i + t) (by omega) (by omega) (by omega)
    rw [show o' + 10 + 7 * i + t = o' + (10 + 7 * i + t) by omega, show o + 10 + 7 * i + t = o + (10 + 7 * i + t) by omega]
    exact h1
  · rw [e j (by omega) (by omega) (by omega)]; exact hs j hj hj2
  · rw [e j (by omega) (by omega) (by omega)]; exact hc j hj hj2
theorem t_CR.cv {r : Nat} {m : Int} {P : Int → Prop} (h : t_CR gi gl r D m P) : t_CV gi gl (r + 2) D := by
  obtain ⟨-, -, ⟨a0, a1⟩, ⟨b, -⟩, ⟨c0, c1⟩, d0, d1⟩ := h
  exact ⟨⟨a0, fun i hi => (a1 i hi).2⟩, b, ⟨c0, c1⟩, d0, d1⟩
theorem t_CV.fr (h : t_CV gi gl v D) (e : ∀ K, v ≤ K → K < v + 16 → g1 K = gi K ∧ l1 K = gl K ∧ r1 K = gr K) : t_CV g1 l1 v D := by
  unfold t_CV
  rw [(e v (by omega) (by omega)).1, (e (v + 1) (by omega) (by omega)).2.1, (e (v + 2) (by omega) (by omega)).2.1, (e (v + 3) (by omega) (by omega)).1, (e (v + 9) (by omega) (by omega)).1, (e (v + 3 + 2) (by omega) (by omega)).1, (e (v + 3 + 3) (by omega) (by omega)).1, (e (v + 3 + 4) (by omega) (by omega)).1, (e (v + 3 + 5) (by omega) (by omega)).1, (e (v + 10) (by omega) (by omega)).1, (e (v + 10 + 2) (by omega) (by omega)).1, (e (v + 10 + 3) (by omega) (by omega)).1, (e (v + 10 + 4) (by omega) (by omega)).1, (e (v + 10 + 5) (by omega) (by omega)).1]
  exact h
theorem t_VL.fr (h : t_VL gr v) (e : ∀ K, v ≤ K → K < v + 16 → g1 K = gi K ∧ l1 K = gl K ∧ r1 K = gr K) : t_VL r1 v := by
  unfold t_VL
  rw [(e v (by omega) (by omega)).2.2, (e (v + 3) (by omega) (by omega)).2.2, (e (v + 10) (by omega) (by omega)).2.2]
  exact h
theorem t_DS.fr (h : t_DS n gi gl gr v o) (hn : n ≤ n') (e : ∀ K, (3 ≤ K ∧ K < 19) ∨ (102 ≤ K ∧ K < n) → g1 K = gi K ∧ l1 K = gl K ∧ r1 K = gr K) (em : ∀ j, j < 100 → j ≠ 3 → j ≠ 8 → g1 70 (o' + j) = gi 70 (o + j)) : t_DS n' g1 l1 r1 v o' := by
  obtain ⟨D, hb, ⟨hv, hv2⟩, hl, hc, hm⟩ := h
  have e2 : ∀ K, v ≤ K → K < v + 16 → g1 K = gi K ∧ l1 K = gl K ∧ r1 K = gr K := fun K k1 k2 => e K (by omega)
  exact ⟨D, hb, ⟨hv, by omega⟩, hl.fr e2, hc.fr e2, hm.mv hb em⟩
theorem t_nd_fr (hX : t_X w sh gi gl gr g1 l1 r1) (h : t_ndB w = true) : ∀ K, (3 ≤ K ∧ K < 19) ∨ 102 ≤ K → g1 K = gi K ∧ l1 K = gl K ∧ r1 K = gr K := by
  intro K hK
  have hcd : (3 ≤ t_cd sh K ∧ t_cd sh K < 19) ∨ 102 ≤ t_cd sh K := by
    unfold t_cd
    by_cases h1 : K < 102
    · rw [if_pos h1]; omega
    · rw [if_neg h1]
      right
      split
      · rename_i s _
        cases s with
        | inl c => show 102 ≤ 110 + c; omega
        | inr q => show 102 ≤ 130 + q.1; omega
      · exact Nat.le_refl _
  have hin : ∀ j, t_in w (t_cd sh K) j = false := by
    intro j
    unfold t_in
    rw [List.any_eq_false]
    intro q hq hh
    have h1 := List.all_eq_true.mp h q hq
    rw [Bool.and_eq_true, Bool.not_eq_true'] at h1
    have h2 : q.1 < 102 := Nat.blt_eq.mp h1.1
    have h3 : q.1 = t_cd sh K := by have := ((Bool.and_eq_true _ _).mp hh).1; exact eq_of_beq this
    have h4 : (Nat.ble 3 q.1 && Nat.blt q.1 19) = true := by
      rw [Bool.and_eq_true]
      exact ⟨Nat.ble_eq.mpr (by omega), Nat.blt_eq.mpr (by omega)⟩
    rw [h1.2] at h4
    cases h4
  exact ⟨funext fun j => (hX.1 K j (hin j)).1, funext fun j => (hX.1 K j (hin j)).2.1, funext fun j => (hX.1 K j (hin j)).2.2⟩
theorem t_F_nr (f : t_F w gi gl gr g1 l1 r1) {c : Nat} (h : t_nc w c = true) (hc : c < 102) : r1 c = gr c := funext fun j => (f c j hc (t_nc_in h)).2.2
/-- no RIVER is touched, nor which is there, nor the MARKS -/
theorem t_DR_gen (hD : t_DR n gi gl gr) (hn : n ≤ n') (e : ∀ K, (3 ≤ K ∧ K < 19) ∨ (102 ≤ K ∧ K < n) → g2 K = gi K ∧ l2 K = gl K ∧ r2 K = gr K) (e6 : r2 0 6 = gr 0 6) (e12 : g2 0 12 = gi 0 12) (e19 : r2 19 = gr 19) (em : ∀ j, j < 1400 → j % 350 ≠ 3 → j % 350 ≠ 8 → j % 350 < 100 → g2 70 j = gi 70 j) (hm : (gi 0 12).toInt ≤ 3) : t_DR n' g2 l2 r2 := by
  obtain ⟨⟨v, h1, h2⟩, h3⟩ := hD
  refine ⟨⟨v, by rw [e6]; exact h1, h2.fr hn e (fun j a b c => em (0 + j) (by omega) (by omega) (by omega) (by omega))⟩, fun k hk => ?_⟩
  rw [e12] at hk
  obtain ⟨u, h4, h5⟩ := h3 k hk
  exact ⟨u, by rw [e19]; exact h4, h5.fr hn e (fun j a b c => em (350 * (k + 1) + j) (by omega) (by omega) (by omega) (by omega))⟩
noncomputable def t_dsB (w1 w2 : List (Nat × Nat)) : Bool := t_ndB w1 && (t_ndB w2 && (t_un w1 (0, 6) && (t_un w2 (0, 6) && (t_un w1 (0, 12) && (t_un w2 (0, 12) && (t_nc w1 19 && (t_nc w2 19 && t_nc w1 70)))))))
theorem t_DR_same (hD : t_DR sh.length gi gl gr) (x1 : t_X w1 sh gi gl gr g1 l1 r1) (x2 : t_X w2 sh g1 l1 r1 g2 l2 r2) (hw : t_dsB w1 w2 = true) (em : ∀ j, j < 1400 → g2 70 j = g1 70 j) (hm : (gi 0 12).toInt ≤ 3) : t_DR sh.length g2 l2 r2 := by
  unfold t_dsB at hw
  simp only [Bool.and_eq_true] at hw
  obtain ⟨a1, a2, a3, a4, a5, a6, a7, a8, a9⟩ := hw
  have f1 := t_F_X x1
  have f2 := t_F_X x2
  refine t_DR_gen hD (Nat.le_refl _) (fun K hK => ?_) ?_ ?_ ?_ (fun j hj _ _ _ => ?_) hm
  · have k1 := t_nd_fr x1 a1 K (by omega)
    have k2 := t_nd_fr x2 a2 K (by omega)
    exact ⟨k2.1.trans k1.1, k2.2.1.trans k1.2.1, k2.2.2.trans k1.2.2⟩
  · rw [(f2 0 6 (by decide) (t_un_ok a4)).2.2, (f1 0 6 (by decide) (t_un_ok a3)).2.2]
  · rw [(f2 0 12 (by decide) (t_un_ok a6)).1, (f1 0 12 (by decide) (t_un_ok a5)).1]
  · rw [t_F_nr f2 a8 (by decide), t_F_nr f1 a7 (by decide)]
  · rw [em j hj, t_F_nc f1 a9 (by decide)]
end DREL
/-! ===== printed by riv.py: MARKS ===== -/
noncomputable def wl_d_mark : List (Nat × Nat) := [(0, 0), (0, 12), (19, 9999), (20, 9999)]
noncomputable def Q_d_mark (gi : Nat → Nat → Int32) (gl : Nat → Nat → Int64) (gr : Nat → Nat → Value) : Int32 → (Nat → Nat → Int32) → (Nat → Nat → Int64) → (Nat → Nat → Value) → Prop := fun (v : Int32) (gi2 : Nat → Nat → Int32) (gl2 : Nat → Nat → Int64) (gr2 : Nat → Nat → Value) => ((gi 0 12).toInt ≠ 3 → (∀ j : Nat, gr2 19 j = if (j : Int) = (gi 0 12).toInt then gr 0 6 else gr 19 j) ∧ (∀ j : Nat, gr2 20 j = if (j : Int) = (gi 0 12).toInt then gr 0 7 else gr 20 j)) ∧ ((gi 0 12).toInt = 3 → (∀ j : Nat, gr2 19 j = gr 19 j) ∧ (∀ j : Nat, gr2 20 j = gr 20 j))
theorem c_d_mark {X : x_Ext} {d : Nat} {sh : List (Nat ⊕ (Nat × Nat))} {gi : Nat → Nat → Int32} {gl : Nat → Nat → Int64} {gr : Nat → Nat → Value} (hI : t_I sh gi gr) : x_Me X (d + 2) n_X11_mark [.ref 0] (sh, gi, gl, gr) (t_PI wl_d_mark sh gi gl gr (-1) 3 (Q_d_mark gi gl gr)) := by
  have hX : t_X wl_d_mark sh gi gl gr gi gl gr := t_X.rf
  refine me_i f_X11_mark (hI.wf.s rfl) rfl rfl rfl ?_
  obtain ⟨l1, u1⟩ := hI.b (hI.wf.s (k := 0) rfl) (t_bdK rfl : t_bd 10 12 = some (0, 3))
  refine ev_loc f_X11_mark (nx := 1) rfl rfl rfl rfl ?_
  refine ev_gvI f_X11_mark (nx := 4) (w := (gi 0 12)) rfl (hI.wf.s rfl) rfl rfl rfl rfl ?_
  refine ev_ic f_X11_mark (nx := 5) (v := 3) rfl (by decide) rfl ?_
  refine ev_if f_X11_mark (t1 := 14) (t2 := 8) rfl rfl rfl (fun h2 => ?_) (fun h2 => ?_)
  · have u3 : (gi 0 12).toInt ≤ 2 := t_ltu h2 (by decide : (3:Int32).toInt ≤ (3:Int)) rfl
    refine ev_loc f_X11_mark (nx := 15) rfl rfl rfl rfl ?_
    refine ev_getR f_X11_mark (nx := 18) rfl (hI.wf.s rfl) rfl rfl (hI.wf.r rfl) rfl rfl ?_
    refine ev_loc f_X11_mark (nx := 19) rfl rfl rfl rfl ?_
    refine ev_gvI f_X11_mark (nx := 22) (w := (gi 0 12)) rfl (hI.wf.s rfl) rfl rfl rfl rfl ?_
    refine ev_loc f_X11_mark (nx := 23) rfl rfl rfl rfl ?_
    obtain ⟨a4, e4, p4⟩ := hI.2.2.2.1.1
    refine ev_getR f_X11_mark (nx := 26) rfl (hI.wf.s rfl) rfl rfl e4 rfl rfl ?_
    have hE5 := t_eqf_upA (gr := gr) (j := ((gi 0 12) : Int32).toNatClampNeg) (v := .ref a4) (hI.wf.s (k := 19) rfl)
    have hT5 := t_mk19 hI (m := ((gi 0 12) : Int32).toNatClampNeg) (v := .ref a4) (Or.inr ⟨_, rfl, p4⟩)
    replace p4 := p4.ext hE5
    refine ev_aastT f_X11_mark (nx := 27) rfl (hI.wf.s rfl) rfl p4.1 l1 (by decide) u3 (by decide) rfl hT5 (hX.upR (t_inA_ok rfl) hE5) (fun g5 e5 hI hX => ?_)
    rw [← e5] at p4
    refine ev_loc f_X11_mark (nx := 28) rfl rfl rfl rfl ?_
    refine ev_getR f_X11_mark (nx := 31) rfl (hI.wf.s rfl) rfl rfl (hI.wf.r rfl) rfl rfl ?_
    refine ev_loc f_X11_mark (nx := 32) rfl rfl rfl rfl ?_
    refine ev_gvI f_X11_mark (nx := 35) (w := (gi 0 12)) rfl (hI.wf.s rfl) rfl rfl rfl rfl ?_
    refine ev_loc f_X11_mark (nx := 36) rfl rfl rfl rfl ?_
    rcases hI.2.2.2.1.2.1 with e6 | ⟨a6, e6, p6⟩
    · refine ev_getR f_X11_mark (nx := 39) rfl (hI.wf.s rfl) rfl rfl e6 rfl rfl ?_
      have hE7 := t_eqf_upA (gr := g5) (j := ((gi 0 12) : Int32).toNatClampNeg) (v := .null) (hI.wf.s (k := 20) rfl)
      have hT7 := t_mk20 hI (m := ((gi 0 12) : Int32).toNatClampNeg) (v := .null) (Or.inl rfl)
      replace p4 := p4.ext hE7
      refine ev_aastN f_X11_mark (nx := 40) rfl (hI.wf.s rfl) rfl l1 (by decide) u3 (by decide) rfl hT7 (hX.upR (t_inA_ok rfl) hE7) (fun g7 e7 hI hX => ?_)
      rw [← e7] at p4
      refine ev_loc f_X11_mark (nx := 41) rfl rfl rfl rfl ?_
      refine ev_alu f_X11_mark (nx := 42) rfl rfl rfl rfl ?_
      refine ev_gvI f_X11_mark (nx := 45) (w := (gi 0 12)) rfl (hI.wf.s rfl) rfl rfl rfl rfl ?_
      refine ev_ic f_X11_mark (nx := 46) (v := 1) rfl (by decide) rfl ?_
      refine ev_addC f_X11_mark (nx := 47) (c := 1) (l := 1) (u := 3) rfl (by decide) l1 u3 rfl rfl (by decide) (by decide) rfl (fun z8 e8 l8 u8 => ?_)
      refine ev_putIT f_X11_mark (nx := 50) rfl (hI.wf.s rfl) rfl rfl rfl (hI.putB (hI.wf.s rfl) rfl rfl l8 (by decide) u8 (by decide)) (hX.upI rfl) (fun g9 e9 hI hX => ?_)
      refine ev_loc f_X11_mark (nx := 51) rfl rfl rfl rfl ?_
      refine ev_loc f_X11_mark (nx := 52) rfl rfl rfl rfl ?_
      refine ev_gvI f_X11_mark (nx := 55) (w := z8) rfl (hI.wf.s rfl) rfl rfl (by rw [e9]; exact x_up2_at _ _ _ _ : g9 0 12 = z8) rfl ?_
      refine ev_inV2 f_X11_mark (nx := 58) (lo2 := [(0, .ref 0), (1, .int z8)]) rfl rfl rfl rfl f_X11_answer (hI.wf.s rfl) rfl rfl rfl rfl rfl ?_
      refine ev_loc f_X11_answer (nx := 1) rfl rfl rfl rfl ?_
      refine ev_ic f_X11_answer (nx := 2) (v := 0) rfl (by decide) rfl ?_
      refine ev_putIT f_X11_answer (nx := 5) rfl (hI.wf.s rfl) rfl rfl rfl (hI.put0 (hI.wf.s rfl) rfl rfl) (hX.upI rfl) (fun g10 e10 hI hX => ?_)
      refine ev_loc f_X11_answer (nx := 6) rfl rfl rfl rfl ?_
      refine ev_retK1 f_X11_answer rfl rfl rfl ?_
      exact ev_ret f_X11_mark rfl rfl rfl ⟨_, _, _, rfl, hI, hX, ⟨_, rfl, (Int.le_trans (by decide : ((-1):Int) ≤ 1) l8), u8, (show ((gi 0 12).toInt ≠ 3 → (∀ j : Nat, g7 19 j = if (j : Int) = (gi 0 12).toInt then gr 0 6 else gr 19 j) ∧ (∀ j : Nat, g7 20 j = if (j : Int) = (gi 0 12).toInt then gr 0 7 else gr 20 j)) ∧ ((gi 0 12).toInt = 3 → (∀ j : Nat, g7 19 j = gr 19 j) ∧ (∀ j : Nat, g7 20 j = gr 20 j)) from ⟨fun _ => ⟨(fun j => (by have hc := t_clamp (i := ((gi 0 12) : Int32)) (by omega); rw [e7, x_up2_off (Or.inl (by decide)), e5]; by_cases hj : j = ((gi 0 12) : Int32).toNatClampNeg; (rw [hj, x_up2_at, if_pos (by omega)]; exact ((hX.1 0 6 rfl).2.2.symm.trans ((by rw [e7]; exact x_up2_off (Or.inl (by decide)) : g7 0 6 = g5 0 6).trans ((by rw [e5]; exact x_up2_off (Or.inl (by decide)) : g5 0 6 = gr 0 6).trans e4))).symm); (rw [x_up2_off (Or.inr hj), if_neg (by omega)]))), (fun j => (by have hc := t_clamp (i := ((gi 0 12) : Int32)) (by omega); rw [e7]; by_cases hj : j = ((gi 0 12) : Int32).toNatClampNeg; (rw [hj, x_up2_at, if_pos (by omega)]; exact ((hX.1 0 7 rfl).2.2.symm.trans ((by rw [e7]; exact x_up2_off (Or.inl (by decide)) : g7 0 7 = g5 0 7).trans e6)).symm); (rw [x_up2_off (Or.inr hj), if_neg (by omega), e5, x_up2_off (Or.inl (by decide))])))⟩, fun h => absurd h (by omega)⟩)⟩⟩
    · refine ev_getR f_X11_mark (nx := 39) rfl (hI.wf.s rfl) rfl rfl e6 rfl rfl ?_
      have hE11 := t_eqf_upA (gr := g5) (j := ((gi 0 12) : Int32).toNatClampNeg) (v := .ref a6) (hI.wf.s (k := 20) rfl)
      have hT11 := t_mk20 hI (m := ((gi 0 12) : Int32).toNatClampNeg) (v := .ref a6) (Or.inr ⟨_, rfl, p6⟩)
      replace p4 := p4.ext hE11
      replace p6 := p6.ext hE11
      refine ev_aastT f_X11_mark (nx := 40) rfl (hI.wf.s rfl) rfl p6.1 l1 (by decide) u3 (by decide) rfl hT11 (hX.upR (t_inA_ok rfl) hE11) (fun g11 e11 hI hX => ?_)
      rw [← e11] at p4
      rw [← e11] at p6
      refine ev_loc f_X11_mark (nx := 41) rfl rfl rfl rfl ?_
      refine ev_alu f_X11_mark (nx := 42) rfl rfl rfl rfl ?_
      refine ev_gvI f_X11_mark (nx := 45) (w := (gi 0 12)) rfl (hI.wf.s rfl) rfl rfl rfl rfl ?_
      refine ev_ic f_X11_mark (nx := 46) (v := 1) rfl (by decide) rfl ?_
      refine ev_addC f_X11_mark (nx := 47) (c := 1) (l := 1) (u := 3) rfl (by decide) l1 u3 rfl rfl (by decide) (by decide) rfl (fun z12 e12 l12 u12 => ?_)
      refine ev_putIT f_X11_mark (nx := 50) rfl (hI.wf.s rfl) rfl rfl rfl (hI.putB (hI.wf.s rfl) rfl rfl l12 (by decide) u12 (by decide)) (hX.upI rfl) (fun g13 e13 hI hX => ?_)
      refine ev_loc f_X11_mark (nx := 51) rfl rfl rfl rfl ?_
      refine ev_loc f_X11_mark (nx := 52) rfl rfl rfl rfl ?_
      refine ev_gvI f_X11_mark (nx := 55) (w := z12) rfl (hI.wf.s rfl) rfl rfl (by rw [e13]; exact x_up2_at _ _ _ _ : g13 0 12 = z12) rfl ?_
      refine ev_inV2 f_X11_mark (nx := 58) (lo2 := [(0, .ref 0), (1, .int z12)]) rfl rfl rfl rfl f_X11_answer (hI.wf.s rfl) rfl rfl rfl rfl rfl ?_
      refine ev_loc f_X11_answer (nx := 1) rfl rfl rfl rfl ?_
      refine ev_ic f_X11_answer (nx := 2) (v := 0) rfl (by decide) rfl ?_
      refine ev_putIT f_X11_answer (nx := 5) rfl (hI.wf.s rfl) rfl rfl rfl (hI.put0 (hI.wf.s rfl) rfl rfl) (hX.upI rfl) (fun g14 e14 hI hX => ?_)
      refine ev_loc f_X11_answer (nx := 6) rfl rfl rfl rfl ?_
      refine ev_retK1 f_X11_answer rfl rfl rfl ?_
      exact ev_ret f_X11_mark rfl rfl rfl ⟨_, _, _, rfl, hI, hX, ⟨_, rfl, (Int.le_trans (by decide : ((-1):Int) ≤ 1) l12), u12, (show ((gi 0 12).toInt ≠ 3 → (∀ j : Nat, g11 19 j = if (j : Int) = (gi 0 12).toInt then gr 0 6 else gr 19 j) ∧ (∀ j : Nat, g11 20 j = if (j : Int) = (gi 0 12).toInt then gr 0 7 else gr 20 j)) ∧ ((gi 0 12).toInt = 3 → (∀ j : Nat, g11 19 j = gr 19 j) ∧ (∀ j : Nat, g11 20 j = gr 20 j)) from ⟨fun _ => ⟨(fun j => (by have hc := t_clamp (i := ((gi 0 12) : Int32)) (by omega); rw [e11, x_up2_off (Or.inl (by decide)), e5]; by_cases hj : j = ((gi 0 12) : Int32).toNatClampNeg; (rw [hj, x_up2_at, if_pos (by omega)]; exact ((hX.1 0 6 rfl).2.2.symm.trans ((by rw [e11]; exact x_up2_off (Or.inl (by decide)) : g11 0 6 = g5 0 6).trans ((by rw [e5]; exact x_up2_off (Or.inl (by decide)) : g5 0 6 = gr 0 6).trans e4))).symm); (rw [x_up2_off (Or.inr hj), if_neg (by omega)]))), (fun j => (by have hc := t_clamp (i := ((gi 0 12) : Int32)) (by omega); rw [e11]; by_cases hj : j = ((gi 0 12) : Int32).toNatClampNeg; (rw [hj, x_up2_at, if_pos (by omega)]; exact ((hX.1 0 7 rfl).2.2.symm.trans ((by rw [e11]; exact x_up2_off (Or.inl (by decide)) : g11 0 7 = g5 0 7).trans e6)).symm); (rw [x_up2_off (Or.inr hj), if_neg (by omega), e5, x_up2_off (Or.inl (by decide))])))⟩, fun h => absurd h (by omega)⟩)⟩⟩
  · have l15 : 3 ≤ (gi 0 12).toInt := t_lel (t_nlt h2) (by decide : (3:Int) ≤ (3:Int32).toInt)
    refine ev_loc f_X11_mark (nx := 9) rfl rfl rfl rfl ?_
    refine ev_ic f_X11_mark (nx := 10) (v := 4) rfl (by decide) rfl ?_
    refine ev_inV2 f_X11_mark (nx := 13) (lo2 := [(0, .ref 0), (1, .int 4)]) rfl rfl rfl rfl f_X11_refuse (hI.wf.s rfl) rfl rfl rfl rfl rfl ?_
    refine ev_loc f_X11_refuse (nx := 1) rfl rfl rfl rfl ?_
    refine ev_loc f_X11_refuse (nx := 2) rfl rfl rfl rfl ?_
    refine ev_putIT f_X11_refuse (nx := 5) rfl (hI.wf.s rfl) rfl rfl rfl (hI.put0 (hI.wf.s rfl) rfl rfl) (hX.upI rfl) (fun g16 e16 hI hX => ?_)
    refine ev_ic f_X11_refuse (nx := 6) (v := -1) rfl (by decide) rfl ?_
    refine ev_retK1 f_X11_refuse rfl rfl rfl ?_
    exact ev_ret f_X11_mark rfl rfl rfl ⟨_, _, _, rfl, hI, hX, ⟨_, rfl, (by decide : ((-1):Int) ≤ ((-1):Int32).toInt), (Int.le_trans (by decide : ((-1):Int32).toInt ≤ ((-1):Int)) (by decide : ((-1):Int) ≤ 3)), (show ((gi 0 12).toInt ≠ 3 → (∀ j : Nat, gr 19 j = if (j : Int) = (gi 0 12).toInt then gr 0 6 else gr 19 j) ∧ (∀ j : Nat, gr 20 j = if (j : Int) = (gi 0 12).toInt then gr 0 7 else gr 20 j)) ∧ ((gi 0 12).toInt = 3 → (∀ j : Nat, gr 19 j = gr 19 j) ∧ (∀ j : Nat, gr 20 j = gr 20 j)) from ⟨fun h => absurd h (by omega), fun _ => ⟨fun _ => rfl, fun _ => rfl⟩⟩)⟩⟩
noncomputable def wl_d_back : List (Nat × Nat) := [(0, 0), (0, 6), (0, 7), (0, 12)]
noncomputable def Q_d_back (gi : Nat → Nat → Int32) (gl : Nat → Nat → Int64) (gr : Nat → Nat → Value) : Int32 → (Nat → Nat → Int32) → (Nat → Nat → Int64) → (Nat → Nat → Value) → Prop := fun (v : Int32) (gi2 : Nat → Nat → Int32) (gl2 : Nat → Nat → Int64) (gr2 : Nat → Nat → Value) => ((gi 0 12).toInt = 0 → gr2 0 6 = gr 0 6 ∧ gr2 0 7 = gr 0 7) ∧ ((gi 0 12).toInt ≠ 0 → gr2 0 6 = gr 19 ((gi 0 12).toInt - 1).toNat ∧ gr2 0 7 = gr 20 ((gi 0 12).toInt - 1).toNat)
theorem c_d_back {X : x_Ext} {d : Nat} {sh : List (Nat ⊕ (Nat × Nat))} {gi : Nat → Nat → Int32} {gl : Nat → Nat → Int64} {gr : Nat → Nat → Value} (hI : t_I sh gi gr) (e_p0 : (∀ j : Nat, (j : Int) < (gi 0 12).toInt → gr 19 j ≠ .null)) : x_Me X (d + 2) n_X11_back [.ref 0] (sh, gi, gl, gr) (t_PI wl_d_back sh gi gl gr (-1) 2 (Q_d_back gi gl gr)) := by
  have hX : t_X wl_d_back sh gi gl gr gi gl gr := t_X.rf
  refine me_i f_X11_back (hI.wf.s rfl) rfl rfl rfl ?_
  obtain ⟨l1, u1⟩ := hI.b (hI.wf.s (k := 0) rfl) (t_bdK rfl : t_bd 10 12 = some (0, 3))
  refine ev_loc f_X11_back (nx := 1) rfl rfl rfl rfl ?_
  refine ev_gvI f_X11_back (nx := 4) (w := (gi 0 12)) rfl (hI.wf.s rfl) rfl rfl rfl rfl ?_
  refine ev_ic f_X11_back (nx := 5) (v := 1) rfl (by decide) rfl ?_
  refine ev_if f_X11_back (t1 := 22) (t2 := 8) rfl rfl rfl (fun h2 => ?_) (fun h2 => ?_)
  · have u3 : (gi 0 12).toInt ≤ 0 := t_ltu h2 (by decide : (1:Int32).toInt ≤ (1:Int)) rfl
    refine ev_loc f_X11_back (nx := 23) rfl rfl rfl rfl ?_
    refine ev_bp f_X11_back (nx := 25) (v := 6) rfl (by decide) rfl ?_
    refine ev_inV2 f_X11_back (nx := 28) (lo2 := [(0, .ref 0), (1, .int 6)]) rfl rfl rfl rfl f_X11_refuse (hI.wf.s rfl) rfl rfl rfl rfl rfl ?_
    refine ev_loc f_X11_refuse (nx := 1) rfl rfl rfl rfl ?_
    refine ev_loc f_X11_refuse (nx := 2) rfl rfl rfl rfl ?_
    refine ev_putIT f_X11_refuse (nx := 5) rfl (hI.wf.s rfl) rfl rfl rfl (hI.put0 (hI.wf.s rfl) rfl rfl) (hX.upI rfl) (fun g4 e4 hI hX => ?_)
    refine ev_ic f_X11_refuse (nx := 6) (v := -1) rfl (by decide) rfl ?_
    refine ev_retK1 f_X11_refuse rfl rfl rfl ?_
    exact ev_ret f_X11_back rfl rfl rfl ⟨_, _, _, rfl, hI, hX, ⟨_, rfl, (by decide : ((-1):Int) ≤ ((-1):Int32).toInt), (Int.le_trans (by decide : ((-1):Int32).toInt ≤ ((-1):Int)) (by decide : ((-1):Int) ≤ 2)), (show ((gi 0 12).toInt = 0 → gr 0 6 = gr 0 6 ∧ gr 0 7 = gr 0 7) ∧ ((gi 0 12).toInt ≠ 0 → gr 0 6 = gr 19 ((gi 0 12).toInt - 1).toNat ∧ gr 0 7 = gr 20 ((gi 0 12).toInt - 1).toNat) from ⟨fun _ => ⟨rfl, rfl⟩, fun h => absurd h (by omega)⟩)⟩⟩
  · have l5 : 1 ≤ (gi 0 12).toInt := t_lel (t_nlt h2) (by decide : (1:Int) ≤ (1:Int32).toInt)
    refine ev_loc f_X11_back (nx := 9) rfl rfl rfl rfl ?_
    refine ev_getR f_X11_back (nx := 12) rfl (hI.wf.s rfl) rfl rfl (hI.wf.r rfl) rfl rfl ?_
    refine ev_loc f_X11_back (nx := 13) rfl rfl rfl rfl ?_
    refine ev_gvI f_X11_back (nx := 16) (w := (gi 0 12)) rfl (hI.wf.s rfl) rfl rfl rfl rfl ?_
    refine ev_ic f_X11_back (nx := 17) (v := 1) rfl (by decide) rfl ?_
    refine ev_subC f_X11_back (nx := 18) (c := 1) (l := 0) (u := 2) rfl (by decide) l5 u1 rfl rfl (by decide) (by decide) rfl (fun z6 e6 l6 u6 => ?_)
    rcases hI.2.2.2.1.2.2.1 z6.toNatClampNeg (t_idx (n := 3) l6 (by decide) u6 (by decide)).2 with e7 | ⟨a7, e7, p7⟩
    · refine ev_aald f_X11_back (nx := 19) rfl (hI.wf.s rfl) rfl (t_idx (n := 3) l6 (by decide) u6 (by decide)).1 (t_idx (n := 3) l6 (by decide) u6 (by decide)).2 e7 rfl rfl ?_
      refine ev_jmp f_X11_back (nx := 22) rfl rfl rfl ?_
      refine ev_loc f_X11_back (nx := 23) rfl rfl rfl rfl ?_
      refine ev_bp f_X11_back (nx := 25) (v := 6) rfl (by decide) rfl ?_
      refine ev_inV2 f_X11_back (nx := 28) (lo2 := [(0, .ref 0), (1, .int 6)]) rfl rfl rfl rfl f_X11_refuse (hI.wf.s rfl) rfl rfl rfl rfl rfl ?_
      refine ev_loc f_X11_refuse (nx := 1) rfl rfl rfl rfl ?_
      refine ev_loc f_X11_refuse (nx := 2) rfl rfl rfl rfl ?_
      refine ev_putIT f_X11_refuse (nx := 5) rfl (hI.wf.s rfl) rfl rfl rfl (hI.put0 (hI.wf.s rfl) rfl rfl) (hX.upI rfl) (fun g8 e8 hI hX => ?_)
      refine ev_ic f_X11_refuse (nx := 6) (v := -1) rfl (by decide) rfl ?_
      refine ev_retK1 f_X11_refuse rfl rfl rfl ?_
      exact ev_ret f_X11_back rfl rfl rfl ⟨_, _, _, rfl, hI, hX, ⟨_, rfl, (by decide : ((-1):Int) ≤ ((-1):Int32).toInt), (Int.le_trans (by decide : ((-1):Int32).toInt ≤ ((-1):Int)) (by decide : ((-1):Int) ≤ 2)), (show ((gi 0 12).toInt = 0 → gr 0 6 = gr 0 6 ∧ gr 0 7 = gr 0 7) ∧ ((gi 0 12).toInt ≠ 0 → gr 0 6 = gr 19 ((gi 0 12).toInt - 1).toNat ∧ gr 0 7 = gr 20 ((gi 0 12).toInt - 1).toNat) from (by exfalso; have hc := t_clamp (i := z6) (by omega); exact e_p0 _ (by omega) e7))⟩⟩
    · refine ev_aald f_X11_back (nx := 19) rfl (hI.wf.s rfl) rfl (t_idx (n := 3) l6 (by decide) u6 (by decide)).1 (t_idx (n := 3) l6 (by decide) u6 (by decide)).2 e7 rfl rfl ?_
      refine ev_jmp f_X11_back (nx := 29) rfl rfl rfl ?_
      refine ev_loc f_X11_back (nx := 30) rfl rfl rfl rfl ?_
      refine ev_alu f_X11_back (nx := 31) rfl rfl rfl rfl ?_
      refine ev_gvI f_X11_back (nx := 34) (w := (gi 0 12)) rfl (hI.wf.s rfl) rfl rfl rfl rfl ?_
      refine ev_ic f_X11_back (nx := 35) (v := 1) rfl (by decide) rfl ?_
      refine ev_subC f_X11_back (nx := 36) (c := 1) (l := 0) (u := 2) rfl (by decide) l5 u1 rfl rfl (by decide) (by decide) rfl (fun z9 e9 l9 u9 => ?_)
      refine ev_putIT f_X11_back (nx := 39) rfl (hI.wf.s rfl) rfl rfl rfl (hI.putB (hI.wf.s rfl) rfl rfl l9 (by decide) u9 (by decide)) (hX.upI rfl) (fun g10 e10 hI hX => ?_)
      refine ev_loc f_X11_back (nx := 40) rfl rfl rfl rfl ?_
      refine ev_loc f_X11_back (nx := 41) rfl rfl rfl rfl ?_
      refine ev_getR f_X11_back (nx := 44) rfl (hI.wf.s rfl) rfl rfl (hI.wf.r rfl) rfl rfl ?_
      refine ev_loc f_X11_back (nx := 45) rfl rfl rfl rfl ?_
      refine ev_gvI f_X11_back (nx := 48) (w := z9) rfl (hI.wf.s rfl) rfl rfl (by rw [e10]; exact x_up2_at _ _ _ _ : g10 0 12 = z9) rfl ?_
      refine ev_aald f_X11_back (nx := 49) (v := .ref a7) rfl (hI.wf.s rfl) rfl (t_idx (n := 3) l9 (by decide) u9 (by decide)).1 (t_idx (n := 3) l9 (by decide) u9 (by decide)).2 (by rw [t_ceq (by omega : z9.toInt = z6.toInt)]; exact e7) rfl rfl ?_
      have hE12 := t_eqf_up (gr := gr) (j := 6) (v := .ref a7) (hI.wf.s (k := 0) rfl) rfl
      have hT12 := t_putRiver hI p7
      replace p7 := p7.ext hE12
      refine ev_putRT f_X11_back (nx := 52) rfl (hI.wf.s rfl) rfl rfl rfl rfl hT12 (hX.upR rfl hE12) (fun g12 e12 hI hX => ?_)
      rw [← e12] at p7
      refine ev_loc f_X11_back (nx := 53) rfl rfl rfl rfl ?_
      refine ev_loc f_X11_back (nx := 54) rfl rfl rfl rfl ?_
      refine ev_getR f_X11_back (nx := 57) rfl (hI.wf.s rfl) rfl rfl (hI.wf.r rfl) rfl rfl ?_
      refine ev_loc f_X11_back (nx := 58) rfl rfl rfl rfl ?_
      refine ev_gvI f_X11_back (nx := 61) (w := z9) rfl (hI.wf.s rfl) rfl rfl (by rw [e10]; exact x_up2_at _ _ _ _ : g10 0 12 = z9) rfl ?_
      rcases hI.2.2.2.1.2.2.2.1 z9.toNatClampNeg (t_idx (n := 3) l9 (by decide) u9 (by decide)).2 with e13 | ⟨a13, e13, p13⟩
      · refine ev_aald f_X11_back (nx := 62) rfl (hI.wf.s rfl) rfl (t_idx (n := 3) l9 (by decide) u9 (by decide)).1 (t_idx (n := 3) l9 (by decide) u9 (by decide)).2 e13 rfl rfl ?_
        have hE14 := t_eqf_up (gr := g12) (j := 7) (v := .null) (hI.wf.s (k := 0) rfl) rfl
        have hT14 := t_putRules hI (v := .null) (Or.inl rfl)
        replace p7 := p7.ext hE14
        refine ev_putRT f_X11_back (nx := 65) rfl (hI.wf.s rfl) rfl rfl rfl rfl hT14 (hX.upR rfl hE14) (fun g14 e14 hI hX => ?_)
        rw [← e14] at p7
        refine ev_loc f_X11_back (nx := 66) rfl rfl rfl rfl ?_
        refine ev_loc f_X11_back (nx := 67) rfl rfl rfl rfl ?_
        refine ev_gvI f_X11_back (nx := 70) (w := z9) rfl (hI.wf.s rfl) rfl rfl (by rw [e10]; exact x_up2_at _ _ _ _ : g10 0 12 = z9) rfl ?_
        refine ev_inV2 f_X11_back (nx := 73) (lo2 := [(0, .ref 0), (1, .int z9)]) rfl rfl rfl rfl f_X11_answer (hI.wf.s rfl) rfl rfl rfl rfl rfl ?_
        refine ev_loc f_X11_answer (nx := 1) rfl rfl rfl rfl ?_
        refine ev_ic f_X11_answer (nx := 2) (v := 0) rfl (by decide) rfl ?_
        refine ev_putIT f_X11_answer (nx := 5) rfl (hI.wf.s rfl) rfl rfl rfl (hI.put0 (hI.wf.s rfl) rfl rfl) (hX.upI rfl) (fun g15 e15 hI hX => ?_)
        refine ev_loc f_X11_answer (nx := 6) rfl rfl rfl rfl ?_
        refine ev_retK1 f_X11_answer rfl rfl rfl ?_
        exact ev_ret f_X11_back rfl rfl rfl ⟨_, _, _, rfl, hI, hX, ⟨_, rfl, (Int.le_trans (by decide : ((-1):Int) ≤ 0) l9), u9, (show ((gi 0 12).toInt = 0 → g14 0 6 = gr 0 6 ∧ g14 0 7 = gr 0 7) ∧ ((gi 0 12).toInt ≠ 0 → g14 0 6 = gr 19 ((gi 0 12).toInt - 1).toNat ∧ g14 0 7 = gr 20 ((gi 0 12).toInt - 1).toNat) from ⟨fun h => absurd h (by omega), fun _ => ⟨(by have h := ((by rw [e14]; exact x_up2_off (Or.inr (by decide)) : g14 0 6 = g12 0 6).trans (by rw [e12]; exact x_up2_at _ _ _ _ : g12 0 6 = .ref a7)); have he := e7; have hc := t_clamp (i := z6) (by omega); rw [show ((gi 0 12).toInt - 1).toNat = z6.toNatClampNeg by omega]; exact h.trans he.symm), (by have h := (by rw [e14]; exact x_up2_at _ _ _ _ : g14 0 7 = .null); have he := e13; rw [e12, x_up2_off (Or.inl (by decide))] at he; have hc := t_clamp (i := z9) (by omega); rw [show ((gi 0 12).toInt - 1).toNat = z9.toNatClampNeg by omega]; exact h.trans he.symm)⟩⟩)⟩⟩
      · refine ev_aald f_X11_back (nx := 62) rfl (hI.wf.s rfl) rfl (t_idx (n := 3) l9 (by decide) u9 (by decide)).1 (t_idx (n := 3) l9 (by decide) u9 (by decide)).2 e13 rfl rfl ?_
        have hE16 := t_eqf_up (gr := g12) (j := 7) (v := .ref a13) (hI.wf.s (k := 0) rfl) rfl
        have hT16 := t_putRules hI (v := .ref a13) (Or.inr ⟨_, rfl, p13⟩)
        replace p7 := p7.ext hE16
        replace p13 := p13.ext hE16
        refine ev_putRT f_X11_back (nx := 65) rfl (hI.wf.s rfl) rfl rfl rfl rfl hT16 (hX.upR rfl hE16) (fun g16 e16 hI hX => ?_)
        rw [← e16] at p7
        rw [← e16] at p13
        refine ev_loc f_X11_back (nx := 66) rfl rfl rfl rfl ?_
        refine ev_loc f_X11_back (nx := 67) rfl rfl rfl rfl ?_
        refine ev_gvI f_X11_back (nx := 70) (w := z9) rfl (hI.wf.s rfl) rfl rfl (by rw [e10]; exact x_up2_at _ _ _ _ : g10 0 12 = z9) rfl ?_
        refine ev_inV2 f_X11_back (nx := 73) (lo2 := [(0, .ref 0), (1, .int z9)]) rfl rfl rfl rfl f_X11_answer (hI.wf.s rfl) rfl rfl rfl rfl rfl ?_
        refine ev_loc f_X11_answer (nx := 1) rfl rfl rfl rfl ?_
        refine ev_ic f_X11_answer (nx := 2) (v := 0) rfl (by decide) rfl ?_
        refine ev_putIT f_X11_answer (nx := 5) rfl (hI.wf.s rfl) rfl rfl rfl (hI.put0 (hI.wf.s rfl) rfl rfl) (hX.upI rfl) (fun g17 e17 hI hX => ?_)
        refine ev_loc f_X11_answer (nx := 6) rfl rfl rfl rfl ?_
        refine ev_retK1 f_X11_answer rfl rfl rfl ?_
        exact ev_ret f_X11_back rfl rfl rfl ⟨_, _, _, rfl, hI, hX, ⟨_, rfl, (Int.le_trans (by decide : ((-1):Int) ≤ 0) l9), u9, (show ((gi 0 12).toInt = 0 → g16 0 6 = gr 0 6 ∧ g16 0 7 = gr 0 7) ∧ ((gi 0 12).toInt ≠ 0 → g16 0 6 = gr 19 ((gi 0 12).toInt - 1).toNat ∧ g16 0 7 = gr 20 ((gi 0 12).toInt - 1).toNat) from ⟨fun h => absurd h (by omega), fun _ => ⟨(by have h := ((by rw [e16]; exact x_up2_off (Or.inr (by decide)) : g16 0 6 = g12 0 6).trans (by rw [e12]; exact x_up2_at _ _ _ _ : g12 0 6 = .ref a7)); have he := e7; have hc := t_clamp (i := z6) (by omega); rw [show ((gi 0 12).toInt - 1).toNat = z6.toNatClampNeg by omega]; exact h.trans he.symm), (by have h := (by rw [e16]; exact x_up2_at _ _ _ _ : g16 0 7 = .ref a13); have he := e13; rw [e12, x_up2_off (Or.inl (by decide))] at he; have hc := t_clamp (i := z9) (by omega); rw [show ((gi 0 12).toInt - 1).toNat = z9.toNatClampNeg by omega]; exact h.trans he.symm)⟩⟩)⟩⟩
/-! ===== printed by riv.py: SHIPS and CARTS told ===== -/
noncomputable def wl_d_ship : List (Nat × Nat) := [(0, 0)]
noncomputable def Q_d_ship (gi : Nat → Nat → Int32) (gl : Nat → Nat → Int64) (gr : Nat → Nat → Value) (ar1 : Int32) (ar2 : Int32) : Int32 → (Nat → Nat → Int32) → (Nat → Nat → Int64) → (Nat → Nat → Value) → Prop := fun (v : Int32) (gi2 : Nat → Nat → Int32) (gl2 : Nat → Nat → Int64) (gr2 : Nat → Nat → Value) => ∀ (u : Nat) (D : s_D), gr 0 6 = .ref u → t_VL gr u → t_CV gi gl u D → t_Cb D → (∀ s : Nat, (s : Int) < D 1 → 0 ≤ D (56 + 5 * s) ∧ D (56 + 5 * s) ≤ 1) → ((0 ≤ ar1.toInt ∧ ar1.toInt < D 1 ∧ 0 ≤ ar2.toInt ∧ ar2.toInt ≤ 4) → v.toInt = D (52 + 5 * ar1.toNatClampNeg + ar2.toNatClampNeg)) ∧ (¬ (0 ≤ ar1.toInt ∧ ar1.toInt < D 1 ∧ 0 ≤ ar2.toInt ∧ ar2.toInt ≤ 4) → v.toInt = -1)
theorem c_d_ship {X : x_Ext} {d : Nat} {sh : List (Nat ⊕ (Nat × Nat))} {gi : Nat → Nat → Int32} {gl : Nat → Nat → Int64} {gr : Nat → Nat → Value} (hI : t_I sh gi gr) (ar1 : Int32) (ar2 : Int32) : x_Me X (d + 2) n_X11_ship [.ref 0, .int ar1, .int ar2] (sh, gi, gl, gr) (t_PI wl_d_ship sh gi gl gr (-2147483648) 2147483647 (Q_d_ship gi gl gr ar1 ar2)) := by
  have hX : t_X wl_d_ship sh gi gl gr gi gl gr := t_X.rf
  refine me_i f_X11_ship (hI.wf.s rfl) rfl rfl rfl ?_
  refine ev_loc f_X11_ship (nx := 1) rfl rfl rfl rfl ?_
  refine ev_loc f_X11_ship (nx := 2) rfl rfl rfl rfl ?_
  refine ev_inV2 f_X11_ship (nx := 5) (lo2 := [(0, .ref 0), (1, .int ar1)]) rfl rfl rfl rfl f_X11_isShip (hI.wf.s rfl) rfl rfl rfl rfl rfl ?_
  refine ev_loc f_X11_isShip (nx := 1) rfl rfl rfl rfl ?_
  refine ev_if f_X11_isShip (t1 := 22) (t2 := 4) rfl rfl rfl (fun h1 => ?_) (fun h1 => ?_)
  · have u2 : ar1.toInt ≤ (-1) := t_ltu h1 (by decide : (0:Int32).toInt ≤ (0:Int)) rfl
    refine ev_ic f_X11_isShip (nx := 23) (v := 0) rfl (by decide) rfl ?_
    refine ev_retK1 f_X11_isShip rfl rfl rfl ?_
    refine ev_t f_X11_ship (t1 := 8) (t2 := 14) rfl rfl rfl (by decide) ?_
    refine ev_loc f_X11_ship (nx := 9) rfl rfl rfl rfl ?_
    refine ev_ic f_X11_ship (nx := 10) (v := 1) rfl (by decide) rfl ?_
    refine ev_inV2 f_X11_ship (nx := 13) (lo2 := [(0, .ref 0), (1, .int 1)]) rfl rfl rfl rfl f_X11_refuse (hI.wf.s rfl) rfl rfl rfl rfl rfl ?_
    refine ev_loc f_X11_refuse (nx := 1) rfl rfl rfl rfl ?_
    refine ev_loc f_X11_refuse (nx := 2) rfl rfl rfl rfl ?_
    refine ev_putIT f_X11_refuse (nx := 5) rfl (hI.wf.s rfl) rfl rfl rfl (hI.put0 (hI.wf.s rfl) rfl rfl) (hX.upI rfl) (fun g3 e3 hI hX => ?_)
    refine ev_ic f_X11_refuse (nx := 6) (v := -1) rfl (by decide) rfl ?_
    refine ev_retK1 f_X11_refuse rfl rfl rfl ?_
    exact ev_ret f_X11_ship rfl rfl rfl ⟨_, _, _, rfl, hI, hX, ⟨_, rfl, (Int.le_trans (by decide : ((-2147483648):Int) ≤ (-1)) (by decide : ((-1):Int) ≤ ((-1):Int32).toInt)), (Int.le_trans (by decide : ((-1):Int32).toInt ≤ ((-1):Int)) (by decide : ((-1):Int) ≤ 2147483647)), (show ∀ (u : Nat) (D : s_D), gr 0 6 = .ref u → t_VL gr u → t_CV gi gl u D → t_Cb D → (∀ s : Nat, (s : Int) < D 1 → 0 ≤ D (56 + 5 * s) ∧ D (56 + 5 * s) ≤ 1) → ((0 ≤ ar1.toInt ∧ ar1.toInt < D 1 ∧ 0 ≤ ar2.toInt ∧ ar2.toInt ≤ 4) → ((-1) : Int) = D (52 + 5 * ar1.toNatClampNeg + ar2.toNatClampNeg)) ∧ (¬ (0 ≤ ar1.toInt ∧ ar1.toInt < D 1 ∧ 0 ≤ ar2.toInt ∧ ar2.toInt ≤ 4) → ((-1) : Int) = -1) from (by
                                                            intro u D hu hl hc hb h1
                                                            have hm := hc.2.2.1.1
                                                            exact ⟨fun h => absurd h (by omega), fun _ => rfl⟩))⟩⟩
  · have l4 : 0 ≤ ar1.toInt := t_lel (t_nlt h1) (by decide : (0:Int) ≤ (0:Int32).toInt)
    refine ev_loc f_X11_isShip (nx := 5) rfl rfl rfl rfl ?_
    refine ev_loc f_X11_isShip (nx := 6) rfl rfl rfl rfl ?_
    obtain ⟨a5, e5, p5⟩ := hI.2.2.2.1.1
    refine ev_getR f_X11_isShip (nx := 9) rfl (hI.wf.s rfl) rfl rfl e5 rfl rfl ?_
    obtain ⟨a6, e6, p6⟩ := p5.2.2.2.2.1
    refine ev_getR f_X11_isShip (nx := 12) rfl p5.1 rfl rfl e6 rfl rfl ?_
    refine ev_getI f_X11_isShip (nx := 15) rfl p6.1 rfl rfl rfl ?_
    obtain ⟨l7, u7⟩ := hI.b p6.1 (t_bdK rfl : t_bd 3 0 = some (0, 6))
    refine ev_if f_X11_isShip (t1 := 22) (t2 := 18) rfl rfl rfl (fun h8 => ?_) (fun h8 => ?_)
    · have r9 : (gi a6 0).toInt ≤ ar1.toInt := Int32.le_iff_toInt_le.mp h8
      refine ev_ic f_X11_isShip (nx := 23) (v := 0) rfl (by decide) rfl ?_
      refine ev_retK1 f_X11_isShip rfl rfl rfl ?_
      refine ev_t f_X11_ship (t1 := 8) (t2 := 14) rfl rfl rfl (by decide) ?_
      refine ev_loc f_X11_ship (nx := 9) rfl rfl rfl rfl ?_
      refine ev_ic f_X11_ship (nx := 10) (v := 1) rfl (by decide) rfl ?_
      refine ev_inV2 f_X11_ship (nx := 13) (lo2 := [(0, .ref 0), (1, .int 1)]) rfl rfl rfl rfl f_X11_refuse (hI.wf.s rfl) rfl rfl rfl rfl rfl ?_
      refine ev_loc f_X11_refuse (nx := 1) rfl rfl rfl rfl ?_
      refine ev_loc f_X11_refuse (nx := 2) rfl rfl rfl rfl ?_
      refine ev_putIT f_X11_refuse (nx := 5) rfl (hI.wf.s rfl) rfl rfl rfl (hI.put0 (hI.wf.s rfl) rfl rfl) (hX.upI rfl) (fun g10 e10 hI hX => ?_)
      refine ev_ic f_X11_refuse (nx := 6) (v := -1) rfl (by decide) rfl ?_
      refine ev_retK1 f_X11_refuse rfl rfl rfl ?_
      exact ev_ret f_X11_ship rfl rfl rfl ⟨_, _, _, rfl, hI, hX, ⟨_, rfl, (Int.le_trans (by decide : ((-2147483648):Int) ≤ (-1)) (by decide : ((-1):Int) ≤ ((-1):Int32).toInt)), (Int.le_trans (by decide : ((-1):Int32).toInt ≤ ((-1):Int)) (by decide : ((-1):Int) ≤ 2147483647)), (show ∀ (u : Nat) (D : s_D), gr 0 6 = .ref u → t_VL gr u → t_CV gi gl u D → t_Cb D → (∀ s : Nat, (s : Int) < D 1 → 0 ≤ D (56 + 5 * s) ∧ D (56 + 5 * s) ≤ 1) → ((0 ≤ ar1.toInt ∧ ar1.toInt < D 1 ∧ 0 ≤ ar2.toInt ∧ ar2.toInt ≤ 4) → ((-1) : Int) = D (52 + 5 * ar1.toNatClampNeg + ar2.toNatClampNeg)) ∧ (¬ (0 ≤ ar1.toInt ∧ ar1.toInt < D 1 ∧ 0 ≤ ar2.toInt ∧ ar2.toInt ≤ 4) → ((-1) : Int) = -1) from (by
                                                            intro u D hu hl hc hb h1
                                                            have ha : a5 = u := Value.ref.inj (e5.symm.trans hu)
                                                            subst ha
                                                            have hb1 : (a5 + 3) = a6 := Value.ref.inj ((hl.1.2.2.2.1).symm.trans e6)
                                                            subst hb1
                                                            have hm := hc.2.2.1.1
                                                            exact ⟨fun h => absurd h (by omega), fun _ => rfl⟩))⟩⟩
    · have r11 : ar1.toInt < (gi a6 0).toInt := Int32.lt_iff_toInt_lt.mp (t_nle h8)
      have u12 : ar1.toInt ≤ 5 := t_ltu (t_nle h8) u7 rfl
      have l13 : 1 ≤ (gi a6 0).toInt := t_ltl (t_nle h8) l4 rfl
      refine ev_ic f_X11_isShip (nx := 19) (v := 1) rfl (by decide) rfl ?_
      refine ev_jmp f_X11_isShip (nx := 23) rfl rfl rfl ?_
      refine ev_retK1 f_X11_isShip rfl rfl rfl ?_
      refine ev_f f_X11_ship (t1 := 8) (t2 := 14) rfl rfl rfl (by decide) ?_
      refine ev_loc f_X11_ship (nx := 15) rfl rfl rfl rfl ?_
      have h14 : ar2.toInt = 0 ∨ ar2.toInt = 1 ∨ ar2.toInt = 2 ∨ ar2.toInt = 3 ∨ ar2.toInt = 4 ∨ (ar2.toInt ≠ 0 ∧ ar2.toInt ≠ 1 ∧ ar2.toInt ≠ 2 ∧ ar2.toInt ≠ 3 ∧ ar2.toInt ≠ 4) := by have := (t_lo ar2); have := (t_hi ar2); omega
      rcases h14 with h14 | h14 | h14 | h14 | h14 | h14
      · refine ev_swt f_X11_ship (nx := 48) (c := 0) rfl h14 rfl ?_
        refine ev_loc f_X11_ship (nx := 49) rfl rfl rfl rfl ?_
        refine ev_loc f_X11_ship (nx := 50) rfl rfl rfl rfl ?_
        refine ev_getR f_X11_ship (nx := 53) (v := .ref a5) rfl (hI.wf.s rfl) rfl rfl e5 rfl rfl ?_
        obtain ⟨a15, e15, s15, o15⟩ := p5.2.2.2.1
        refine ev_getR f_X11_ship (nx := 56) rfl p5.1 rfl rfl e15 rfl rfl ?_
        refine ev_loc f_X11_ship (nx := 57) rfl rfl rfl rfl ?_
        refine ev_ialdT f_X11_ship (nx := 58) rfl s15 l4 (by decide) u12 (by decide) rfl (fun w16 e16 => ?_)
        refine ev_inV2 f_X11_ship (nx := 61) (lo2 := [(0, .ref 0), (1, .int w16)]) rfl rfl rfl rfl f_X11_answer (hI.wf.s rfl) rfl rfl rfl rfl rfl ?_
        refine ev_loc f_X11_answer (nx := 1) rfl rfl rfl rfl ?_
        refine ev_ic f_X11_answer (nx := 2) (v := 0) rfl (by decide) rfl ?_
        refine ev_putIT f_X11_answer (nx := 5) rfl (hI.wf.s rfl) rfl rfl rfl (hI.put0 (hI.wf.s rfl) rfl rfl) (hX.upI rfl) (fun g17 e17 hI hX => ?_)
        refine ev_loc f_X11_answer (nx := 6) rfl rfl rfl rfl ?_
        refine ev_retK1 f_X11_answer rfl rfl rfl ?_
        exact ev_ret f_X11_ship rfl rfl rfl ⟨_, _, _, rfl, hI, hX, ⟨_, rfl, (t_lo w16), (t_hi w16), (show ∀ (u : Nat) (D : s_D), gr 0 6 = .ref u → t_VL gr u → t_CV gi gl u D → t_Cb D → (∀ s : Nat, (s : Int) < D 1 → 0 ≤ D (56 + 5 * s) ∧ D (56 + 5 * s) ≤ 1) → ((0 ≤ ar1.toInt ∧ ar1.toInt < D 1 ∧ 0 ≤ ar2.toInt ∧ ar2.toInt ≤ 4) → w16.toInt = D (52 + 5 * ar1.toNatClampNeg + ar2.toNatClampNeg)) ∧ (¬ (0 ≤ ar1.toInt ∧ ar1.toInt < D 1 ∧ 0 ≤ ar2.toInt ∧ ar2.toInt ≤ 4) → w16.toInt = -1) from (by
                                                            intro u D hu hl hc hb h1
                                                            have ha : a5 = u := Value.ref.inj (e5.symm.trans hu)
                                                            subst ha
                                                            have hb1 : (a5 + 3) = a6 := Value.ref.inj ((hl.1.2.2.2.1).symm.trans e6)
                                                            subst hb1
                                                            have hb2 : (a5 + 9) = a15 := Value.ref.inj ((hl.1.2.2.1).symm.trans e15)
                                                            subst hb2
                                                            have hm := hc.2.2.1.1
                                                            have ka := t_clamp (i := ar1) (by omega)
                                                            have kb := t_clamp (i := ar2) (by omega)
                                                            have hs := hc.2.2.1.2 ar1.toNatClampNeg (by omega)
                                                            refine ⟨fun _ => ?_, fun h => absurd (show _ from ⟨by omega, by omega, by omega, by omega⟩) h⟩
                                                            rw [show 52 + 5 * ar1.toNatClampNeg + ar2.toNatClampNeg = 52 + 5 * ar1.toNatClampNeg by omega]
                                                            rw [e16]; exact hs.1))⟩⟩
      · refine ev_swt f_X11_ship (nx := 62) (c := 1) rfl h14 rfl ?_
        refine ev_loc f_X11_ship (nx := 63) rfl rfl rfl rfl ?_
        refine ev_loc f_X11_ship (nx := 64) rfl rfl rfl rfl ?_
        refine ev_getR f_X11_ship (nx := 67) (v := .ref a5) rfl (hI.wf.s rfl) rfl rfl e5 rfl rfl ?_
        refine ev_getR f_X11_ship (nx := 70) (v := .ref a6) rfl p5.1 rfl rfl e6 rfl rfl ?_
        obtain ⟨a18, e18, s18, o18⟩ := p6.2.2.1
        refine ev_getR f_X11_ship (nx := 73) rfl p6.1 rfl rfl e18 rfl rfl ?_
        refine ev_loc f_X11_ship (nx := 74) rfl rfl rfl rfl ?_
        refine ev_ialdT f_X11_ship (nx := 75) rfl s18 l4 (by decide) u12 (by decide) rfl (fun w19 e19 => ?_)
        refine ev_inV2 f_X11_ship (nx := 78) (lo2 := [(0, .ref 0), (1, .int w19)]) rfl rfl rfl rfl f_X11_answer (hI.wf.s rfl) rfl rfl rfl rfl rfl ?_
        refine ev_loc f_X11_answer (nx := 1) rfl rfl rfl rfl ?_
        refine ev_ic f_X11_answer (nx := 2) (v := 0) rfl (by decide) rfl ?_
        refine ev_putIT f_X11_answer (nx := 5) rfl (hI.wf.s rfl) rfl rfl rfl (hI.put0 (hI.wf.s rfl) rfl rfl) (hX.upI rfl) (fun g20 e20 hI hX => ?_)
        refine ev_loc f_X11_answer (nx := 6) rfl rfl rfl rfl ?_
        refine ev_retK1 f_X11_answer rfl rfl rfl ?_
        exact ev_ret f_X11_ship rfl rfl rfl ⟨_, _, _, rfl, hI, hX, ⟨_, rfl, (t_lo w19), (t_hi w19), (show ∀ (u : Nat) (D : s_D), gr 0 6 = .ref u → t_VL gr u → t_CV gi gl u D → t_Cb D → (∀ s : Nat, (s : Int) < D 1 → 0 ≤ D (56 + 5 * s) ∧ D (56 + 5 * s) ≤ 1) → ((0 ≤ ar1.toInt ∧ ar1.toInt < D 1 ∧ 0 ≤ ar2.toInt ∧ ar2.toInt ≤ 4) → w19.toInt = D (52 + 5 * ar1.toNatClampNeg + ar2.toNatClampNeg)) ∧ (¬ (0 ≤ ar1.toInt ∧ ar1.toInt < D 1 ∧ 0 ≤ ar2.toInt ∧ ar2.toInt ≤ 4) → w19.toInt = -1) from (by
                                                            intro u D hu hl hc hb h1
                                                            have ha : a5 = u := Value.ref.inj (e5.symm.trans hu)
                                                            subst ha
                                                            have hb1 : (a5 + 3) = a6 := Value.ref.inj ((hl.1.2.2.2.1).symm.trans e6)
                                                            subst hb1
                                                            have hb2 : (a5 + 3 + 2) = a18 := Value.ref.inj ((hl.2.1.2.1).symm.trans e18)
                                                            subst hb2
                                                            have hm := hc.2.2.1.1
                                                            have ka := t_clamp (i := ar1) (by omega)
                                                            have kb := t_clamp (i := ar2) (by omega)
                                                            have hs := hc.2.2.1.2 ar1.toNatClampNeg (by omega)
                                                            refine ⟨fun _ => ?_, fun h => absurd (show _ from ⟨by omega, by omega, by omega, by omega⟩) h⟩
                                                            rw [show 52 + 5 * ar1.toNatClampNeg + ar2.toNatClampNeg = 53 + 5 * ar1.toNatClampNeg by omega]
                                                            rw [e19]; exact hs.2.1))⟩⟩
      · refine ev_swt f_X11_ship (nx := 79) (c := 2) rfl h14 rfl ?_
        refine ev_loc f_X11_ship (nx := 80) rfl rfl rfl rfl ?_
        refine ev_loc f_X11_ship (nx := 81) rfl rfl rfl rfl ?_
        refine ev_getR f_X11_ship (nx := 84) (v := .ref a5) rfl (hI.wf.s rfl) rfl rfl e5 rfl rfl ?_
        refine ev_getR f_X11_ship (nx := 87) (v := .ref a6) rfl p5.1 rfl rfl e6 rfl rfl ?_
        obtain ⟨a21, e21, s21, o21⟩ := p6.2.2.2.1
        refine ev_getR f_X11_ship (nx := 90) rfl p6.1 rfl rfl e21 rfl rfl ?_
        refine ev_loc f_X11_ship (nx := 91) rfl rfl rfl rfl ?_
        refine ev_ialdT f_X11_ship (nx := 92) rfl s21 l4 (by decide) u12 (by decide) rfl (fun w22 e22 => ?_)
        refine ev_inV2 f_X11_ship (nx := 95) (lo2 := [(0, .ref 0), (1, .int w22)]) rfl rfl rfl rfl f_X11_answer (hI.wf.s rfl) rfl rfl rfl rfl rfl ?_
        refine ev_loc f_X11_answer (nx := 1) rfl rfl rfl rfl ?_
        refine ev_ic f_X11_answer (nx := 2) (v := 0) rfl (by decide) rfl ?_
        refine ev_putIT f_X11_answer (nx := 5) rfl (hI.wf.s rfl) rfl rfl rfl (hI.put0 (hI.wf.s rfl) rfl rfl) (hX.upI rfl) (fun g23 e23 hI hX => ?_)
        refine ev_loc f_X11_answer (nx := 6) rfl rfl rfl rfl ?_
        refine ev_retK1 f_X11_answer rfl rfl rfl ?_
        exact ev_ret f_X11_ship rfl rfl rfl ⟨_, _, _, rfl, hI, hX, ⟨_, rfl, (t_lo w22), (t_hi w22), (show ∀ (u : Nat) (D : s_D), gr 0 6 = .ref u → t_VL gr u → t_CV gi gl u D → t_Cb D → (∀ s : Nat, (s : Int) < D 1 → 0 ≤ D (56 + 5 * s) ∧ D (56 + 5 * s) ≤ 1) → ((0 ≤ ar1.toInt ∧ ar1.toInt < D 1 ∧ 0 ≤ ar2.toInt ∧ ar2.toInt ≤ 4) → w22.toInt = D (52 + 5 * ar1.toNatClampNeg + ar2.toNatClampNeg)) ∧ (¬ (0 ≤ ar1.toInt ∧ ar1.toInt < D 1 ∧ 0 ≤ ar2.toInt ∧ ar2.toInt ≤ 4) → w22.toInt = -1) from (by
                                                            intro u D hu hl hc hb h1
                                                            have ha : a5 = u := Value.ref.inj (e5.symm.trans hu)
                                                            subst ha
                                                            have hb1 : (a5 + 3) = a6 := Value.ref.inj ((hl.1.2.2.2.1).symm.trans e6)
                                                            subst hb1
                                                            have hb2 : (a5 + 3 + 3) = a21 := Value.ref.inj ((hl.2.1.2.2.1).symm.trans e21)
                                                            subst hb2
                                                            have hm := hc.2.2.1.1
                                                            have ka := t_clamp (i := ar1) (by omega)
                                                            have kb := t_clamp (i := ar2) (by omega)
                                                            have hs := hc.2.2.1.2 ar1.toNatClampNeg (by omega)
                                                            refine ⟨fun _ => ?_, fun h => absurd (show _ from ⟨by omega, by omega, by omega, by omega⟩) h⟩
                                                            rw [show 52 + 5 * ar1.toNatClampNeg + ar2.toNatClampNeg = 54 + 5 * ar1.toNatClampNeg by omega]
                                                            rw [e22]; exact hs.2.2.1))⟩⟩
      · refine ev_swt f_X11_ship (nx := 96) (c := 3) rfl h14 rfl ?_
        refine ev_loc f_X11_ship (nx := 97) rfl rfl rfl rfl ?_
        refine ev_loc f_X11_ship (nx := 98) rfl rfl rfl rfl ?_
        refine ev_getR f_X11_ship (nx := 101) (v := .ref a5) rfl (hI.wf.s rfl) rfl rfl e5 rfl rfl ?_
        refine ev_getR f_X11_ship (nx := 104) (v := .ref a6) rfl p5.1 rfl rfl e6 rfl rfl ?_
        obtain ⟨a24, e24, s24, o24⟩ := p6.2.2.2.2.1
        refine ev_getR f_X11_ship (nx := 107) rfl p6.1 rfl rfl e24 rfl rfl ?_
        refine ev_loc f_X11_ship (nx := 108) rfl rfl rfl rfl ?_
        refine ev_ialdT f_X11_ship (nx := 109) rfl s24 l4 (by decide) u12 (by decide) rfl (fun w25 e25 => ?_)
        refine ev_inV2 f_X11_ship (nx := 112) (lo2 := [(0, .ref 0), (1, .int w25)]) rfl rfl rfl rfl f_X11_answer (hI.wf.s rfl) rfl rfl rfl rfl rfl ?_
        refine ev_loc f_X11_answer (nx := 1) rfl rfl rfl rfl ?_
        refine ev_ic f_X11_answer (nx := 2) (v := 0) rfl (by decide) rfl ?_
        refine ev_putIT f_X11_answer (nx := 5) rfl (hI.wf.s rfl) rfl rfl rfl (hI.put0 (hI.wf.s rfl) rfl rfl) (hX.upI rfl) (fun g26 e26 hI hX => ?_)
        refine ev_loc f_X11_answer (nx := 6) rfl rfl rfl rfl ?_
        refine ev_retK1 f_X11_answer rfl rfl rfl ?_
        exact ev_ret f_X11_ship rfl rfl rfl ⟨_, _, _, rfl, hI, hX, ⟨_, rfl, (t_lo w25), (t_hi w25), (show ∀ (u : Nat) (D : s_D), gr 0 6 = .ref u → t_VL gr u → t_CV gi gl u D → t_Cb D → (∀ s : Nat, (s : Int) < D 1 → 0 ≤ D (56 + 5 * s) ∧ D (56 + 5 * s) ≤ 1) → ((0 ≤ ar1.toInt ∧ ar1.toInt < D 1 ∧ 0 ≤ ar2.toInt ∧ ar2.toInt ≤ 4) → w25.toInt = D (52 + 5 * ar1.toNatClampNeg + ar2.toNatClampNeg)) ∧ (¬ (0 ≤ ar1.toInt ∧ ar1.toInt < D 1 ∧ 0 ≤ ar2.toInt ∧ ar2.toInt ≤ 4) → w25.toInt = -1) from (by
                                                            intro u D hu hl hc hb h1
                                                            have ha : a5 = u := Value.ref.inj (e5.symm.trans hu)
                                                            subst ha
                                                            have hb1 : (a5 + 3) = a6 := Value.ref.inj ((hl.1.2.2.2.1).symm.trans e6)
                                                            subst hb1
                                                            have hb2 : (a5 + 3 + 4) = a24 := Value.ref.inj ((hl.2.1.2.2.2.1).symm.trans e24)
                                                            subst hb2
                                                            have hm := hc.2.2.1.1
                                                            have ka := t_clamp (i := ar1) (by omega)
                                                            have kb := t_clamp (i := ar2) (by omega)
                                                            have hs := hc.2.2.1.2 ar1.toNatClampNeg (by omega)
                                                            refine ⟨fun _ => ?_, fun h => absurd (show _ from ⟨by omega, by omega, by omega, by omega⟩) h⟩
                                                            rw [show 52 + 5 * ar1.toNatClampNeg + ar2.toNatClampNeg = 55 + 5 * ar1.toNatClampNeg by omega]
                                                            rw [e25]; exact hs.2.2.2.1))⟩⟩
      · refine ev_swt f_X11_ship (nx := 113) (c := 4) rfl h14 rfl ?_
        refine ev_loc f_X11_ship (nx := 114) rfl rfl rfl rfl ?_
        refine ev_loc f_X11_ship (nx := 115) rfl rfl rfl rfl ?_
        refine ev_getR f_X11_ship (nx := 118) (v := .ref a5) rfl (hI.wf.s rfl) rfl rfl e5 rfl rfl ?_
        refine ev_getR f_X11_ship (nx := 121) (v := .ref a6) rfl p5.1 rfl rfl e6 rfl rfl ?_
        obtain ⟨a27, e27, s27, o27⟩ := p6.2.2.2.2.2
        refine ev_getR f_X11_ship (nx := 124) rfl p6.1 rfl rfl e27 rfl rfl ?_
        refine ev_loc f_X11_ship (nx := 125) rfl rfl rfl rfl ?_
        refine ev_baldT f_X11_ship (nx := 126) rfl s27 rfl l4 (by decide) u12 (by decide) rfl (fun w28 e28 => ?_)
        refine ev_if f_X11_ship (t1 := 133) (t2 := 129) rfl rfl rfl (fun h29 => ?_) (fun h29 => ?_)
        · have u30 : w28.toInt ≤ 0 := t_equ h29 (by decide : (0:Int32).toInt ≤ (0:Int))
          have l31 : 0 ≤ w28.toInt := t_eql h29 (by decide : (0:Int) ≤ (0:Int32).toInt)
          refine ev_ic f_X11_ship (nx := 134) (v := 0) rfl (by decide) rfl ?_
          refine ev_inV2 f_X11_ship (nx := 137) (lo2 := [(0, .ref 0), (1, .int 0)]) rfl rfl rfl rfl f_X11_answer (hI.wf.s rfl) rfl rfl rfl rfl rfl ?_
          refine ev_loc f_X11_answer (nx := 1) rfl rfl rfl rfl ?_
          refine ev_ic f_X11_answer (nx := 2) (v := 0) rfl (by decide) rfl ?_
          refine ev_putIT f_X11_answer (nx := 5) rfl (hI.wf.s rfl) rfl rfl rfl (hI.put0 (hI.wf.s rfl) rfl rfl) (hX.upI rfl) (fun g32 e32 hI hX => ?_)
          refine ev_loc f_X11_answer (nx := 6) rfl rfl rfl rfl ?_
          refine ev_retK1 f_X11_answer rfl rfl rfl ?_
          exact ev_ret f_X11_ship rfl rfl rfl ⟨_, _, _, rfl, hI, hX, ⟨_, rfl, (Int.le_trans (by decide : ((-2147483648):Int) ≤ 0) (by decide : (0:Int) ≤ (0:Int32).toInt)), (Int.le_trans (by decide : (0:Int32).toInt ≤ (0:Int)) (by decide : (0:Int) ≤ 2147483647)), (show ∀ (u : Nat) (D : s_D), gr 0 6 = .ref u → t_VL gr u → t_CV gi gl u D → t_Cb D → (∀ s : Nat, (s : Int) < D 1 → 0 ≤ D (56 + 5 * s) ∧ D (56 + 5 * s) ≤ 1) → ((0 ≤ ar1.toInt ∧ ar1.toInt < D 1 ∧ 0 ≤ ar2.toInt ∧ ar2.toInt ≤ 4) → (0 : Int) = D (52 + 5 * ar1.toNatClampNeg + ar2.toNatClampNeg)) ∧ (¬ (0 ≤ ar1.toInt ∧ ar1.toInt < D 1 ∧ 0 ≤ ar2.toInt ∧ ar2.toInt ≤ 4) → (0 : Int) = -1) from (by
                                                            intro u D hu hl hc hb h1
                                                            have ha : a5 = u := Value.ref.inj (e5.symm.trans hu)
                                                            subst ha
                                                            have hb1 : (a5 + 3) = a6 := Value.ref.inj ((hl.1.2.2.2.1).symm.trans e6)
                                                            subst hb1
                                                            have hb2 : (a5 + 3 + 5) = a27 := Value.ref.inj ((hl.2.1.2.2.2.2).symm.trans e27)
                                                            subst hb2
                                                            have hm := hc.2.2.1.1
                                                            have ka := t_clamp (i := ar1) (by omega)
                                                            have kb := t_clamp (i := ar2) (by omega)
                                                            have hs := hc.2.2.1.2 ar1.toNatClampNeg (by omega)
                                                            refine ⟨fun _ => ?_, fun h => absurd (show _ from ⟨by omega, by omega, by omega, by omega⟩) h⟩
                                                            rw [show 52 + 5 * ar1.toNatClampNeg + ar2.toNatClampNeg = 56 + 5 * ar1.toNatClampNeg by omega]
                                                            have hw : w28.toInt = D (56 + 5 * ar1.toNatClampNeg) := by rw [e28]; exact hs.2.2.2.2
                                                            have h2 := h1 ar1.toNatClampNeg (by omega)
                                                            rw [← hw] at h2 ⊢
                                                            have k1 : (1 : Int32).toInt = 1 := rfl
                                                            have k0 : (0 : Int32).toInt = 0 := rfl
                                                            omega))⟩⟩
        · have r33 : w28.toInt ≠ 0 := fun e => h29 (Int32.toInt_inj.mp (e.trans (by decide : (0:Int) = (0 : Int32).toInt)))
          refine ev_ic f_X11_ship (nx := 130) (v := 1) rfl (by decide) rfl ?_
          refine ev_jmp f_X11_ship (nx := 134) rfl rfl rfl ?_
          refine ev_inV2 f_X11_ship (nx := 137) (lo2 := [(0, .ref 0), (1, .int 1)]) rfl rfl rfl rfl f_X11_answer (hI.wf.s rfl) rfl rfl rfl rfl rfl ?_
          refine ev_loc f_X11_answer (nx := 1) rfl rfl rfl rfl ?_
          refine ev_ic f_X11_answer (nx := 2) (v := 0) rfl (by decide) rfl ?_
          refine ev_putIT f_X11_answer (nx := 5) rfl (hI.wf.s rfl) rfl rfl rfl (hI.put0 (hI.wf.s rfl) rfl rfl) (hX.upI rfl) (fun g34 e34 hI hX => ?_)
          refine ev_loc f_X11_answer (nx := 6) rfl rfl rfl rfl ?_
          refine ev_retK1 f_X11_answer rfl rfl rfl ?_
          exact ev_ret f_X11_ship rfl rfl rfl ⟨_, _, _, rfl, hI, hX, ⟨_, rfl, (Int.le_trans (by decide : ((-2147483648):Int) ≤ 1) (by decide : (1:Int) ≤ (1:Int32).toInt)), (Int.le_trans (by decide : (1:Int32).toInt ≤ (1:Int)) (by decide : (1:Int) ≤ 2147483647)), (show ∀ (u : Nat) (D : s_D), gr 0 6 = .ref u → t_VL gr u → t_CV gi gl u D → t_Cb D → (∀ s : Nat, (s : Int) < D 1 → 0 ≤ D (56 + 5 * s) ∧ D (56 + 5 * s) ≤ 1) → ((0 ≤ ar1.toInt ∧ ar1.toInt < D 1 ∧ 0 ≤ ar2.toInt ∧ ar2.toInt ≤ 4) → (1 : Int) = D (52 + 5 * ar1.toNatClampNeg + ar2.toNatClampNeg)) ∧ (¬ (0 ≤ ar1.toInt ∧ ar1.toInt < D 1 ∧ 0 ≤ ar2.toInt ∧ ar2.toInt ≤ 4) → (1 : Int) = -1) from (by
                                                            intro u D hu hl hc hb h1
                                                            have ha : a5 = u := Value.ref.inj (e5.symm.trans hu)
                                                            subst ha
                                                            have hb1 : (a5 + 3) = a6 := Value.ref.inj ((hl.1.2.2.2.1).symm.trans e6)
                                                            subst hb1
                                                            have hb2 : (a5 + 3 + 5) = a27 := Value.ref.inj ((hl.2.1.2.2.2.2).symm.trans e27)
                                                            subst hb2
                                                            have hm := hc.2.2.1.1
                                                            have ka := t_clamp (i := ar1) (by omega)
                                                            have kb := t_clamp (i := ar2) (by omega)
                                                            have hs := hc.2.2.1.2 ar1.toNatClampNeg (by omega)
                                                            refine ⟨fun _ => ?_, fun h => absurd (show _ from ⟨by omega, by omega, by omega, by omega⟩) h⟩
                                                            rw [show 52 + 5 * ar1.toNatClampNeg + ar2.toNatClampNeg = 56 + 5 * ar1.toNatClampNeg by omega]
                                                            have hw : w28.toInt = D (56 + 5 * ar1.toNatClampNeg) := by rw [e28]; exact hs.2.2.2.2
                                                            have h2 := h1 ar1.toNatClampNeg (by omega)
                                                            rw [← hw] at h2 ⊢
                                                            have k1 : (1 : Int32).toInt = 1 := rfl
                                                            have k0 : (0 : Int32).toInt = 0 := rfl
                                                            omega))⟩⟩
      · refine ev_swtd f_X11_ship (nx := 138) rfl (by omega) (by decide) rfl ?_
        refine ev_loc f_X11_ship (nx := 139) rfl rfl rfl rfl ?_
        refine ev_ic f_X11_ship (nx := 140) (v := 1) rfl (by decide) rfl ?_
        refine ev_inV2 f_X11_ship (nx := 143) (lo2 := [(0, .ref 0), (1, .int 1)]) rfl rfl rfl rfl f_X11_refuse (hI.wf.s rfl) rfl rfl rfl rfl rfl ?_
        refine ev_loc f_X11_refuse (nx := 1) rfl rfl rfl rfl ?_
        refine ev_loc f_X11_refuse (nx := 2) rfl rfl rfl rfl ?_
        refine ev_putIT f_X11_refuse (nx := 5) rfl (hI.wf.s rfl) rfl rfl rfl (hI.put0 (hI.wf.s rfl) rfl rfl) (hX.upI rfl) (fun g35 e35 hI hX => ?_)
        refine ev_ic f_X11_refuse (nx := 6) (v := -1) rfl (by decide) rfl ?_
        refine ev_retK1 f_X11_refuse rfl rfl rfl ?_
        exact ev_ret f_X11_ship rfl rfl rfl ⟨_, _, _, rfl, hI, hX, ⟨_, rfl, (Int.le_trans (by decide : ((-2147483648):Int) ≤ (-1)) (by decide : ((-1):Int) ≤ ((-1):Int32).toInt)), (Int.le_trans (by decide : ((-1):Int32).toInt ≤ ((-1):Int)) (by decide : ((-1):Int) ≤ 2147483647)), (show ∀ (u : Nat) (D : s_D), gr 0 6 = .ref u → t_VL gr u → t_CV gi gl u D → t_Cb D → (∀ s : Nat, (s : Int) < D 1 → 0 ≤ D (56 + 5 * s) ∧ D (56 + 5 * s) ≤ 1) → ((0 ≤ ar1.toInt ∧ ar1.toInt < D 1 ∧ 0 ≤ ar2.toInt ∧ ar2.toInt ≤ 4) → ((-1) : Int) = D (52 + 5 * ar1.toNatClampNeg + ar2.toNatClampNeg)) ∧ (¬ (0 ≤ ar1.toInt ∧ ar1.toInt < D 1 ∧ 0 ≤ ar2.toInt ∧ ar2.toInt ≤ 4) → ((-1) : Int) = -1) from (by
                                                            intro u D hu hl hc hb h1
                                                            have ha : a5 = u := Value.ref.inj (e5.symm.trans hu)
                                                            subst ha
                                                            have hb1 : (a5 + 3) = a6 := Value.ref.inj ((hl.1.2.2.2.1).symm.trans e6)
                                                            subst hb1
                                                            have hm := hc.2.2.1.1
                                                            exact ⟨fun h => absurd h (by omega), fun _ => rfl⟩))⟩⟩
noncomputable def wl_e_ship : List (Nat × Nat) := [(69, 2)]
noncomputable def Q_e_ship (gi : Nat → Nat → Int32) (gl : Nat → Nat → Int64) (gr : Nat → Nat → Value) (ar1 : Int32) (ar2 : Int32) : Int32 → (Nat → Nat → Int32) → (Nat → Nat → Int64) → (Nat → Nat → Value) → Prop := fun (v : Int32) (gi2 : Nat → Nat → Int32) (gl2 : Nat → Nat → Int64) (gr2 : Nat → Nat → Value) => ∀ (D : s_D), t_ME 0 gi D → t_Cb D → ((0 ≤ ar1.toInt ∧ ar1.toInt < D 1 ∧ 0 ≤ ar2.toInt ∧ ar2.toInt ≤ 4) → v.toInt = D (52 + 5 * ar1.toNatClampNeg + ar2.toNatClampNeg)) ∧ (¬ (0 ≤ ar1.toInt ∧ ar1.toInt < D 1 ∧ 0 ≤ ar2.toInt ∧ ar2.toInt ≤ 4) → v.toInt = -1)
theorem c_e_ship {X : x_Ext} {d : Nat} {sh : List (Nat ⊕ (Nat × Nat))} {gi : Nat → Nat → Int32} {gl : Nat → Nat → Int64} {gr : Nat → Nat → Value} (hI : t_I sh gi gr) (ar1 : Int32) (ar2 : Int32) : x_Me X (d + 2) n_X12_ship [.ref 69, .int ar1, .int ar2] (sh, gi, gl, gr) (t_PI wl_e_ship sh gi gl gr (-1) 120 (Q_e_ship gi gl gr ar1 ar2)) := by
  have hX : t_X wl_e_ship sh gi gl gr gi gl gr := t_X.rf
  refine me_i f_X12_ship (hI.wf.s rfl) rfl rfl rfl ?_
  refine ev_loc f_X12_ship (nx := 1) rfl rfl rfl rfl ?_
  refine ev_loc f_X12_ship (nx := 2) rfl rfl rfl rfl ?_
  refine ev_inV2 f_X12_ship (nx := 5) (lo2 := [(0, .ref 69), (1, .int ar1)]) rfl rfl rfl rfl f_X12_isShip (hI.wf.s rfl) rfl rfl rfl rfl rfl ?_
  refine ev_loc f_X12_isShip (nx := 1) rfl rfl rfl rfl ?_
  refine ev_if f_X12_isShip (t1 := 18) (t2 := 4) rfl rfl rfl (fun h1 => ?_) (fun h1 => ?_)
  · have u2 : ar1.toInt ≤ (-1) := t_ltu h1 (by decide : (0:Int32).toInt ≤ (0:Int)) rfl
    refine ev_ic f_X12_isShip (nx := 19) (v := 0) rfl (by decide) rfl ?_
    refine ev_retK1 f_X12_isShip rfl rfl rfl ?_
    refine ev_t f_X12_ship (t1 := 37) (t2 := 8) rfl rfl rfl (by decide) ?_
    refine ev_loc f_X12_ship (nx := 38) rfl rfl rfl rfl ?_
    refine ev_ic f_X12_ship (nx := 39) (v := 1) rfl (by decide) rfl ?_
    refine ev_inV2 f_X12_ship (nx := 42) (lo2 := [(0, .ref 69), (1, .int 1)]) rfl rfl rfl rfl f_X12_refuse (hI.wf.s rfl) rfl rfl rfl rfl rfl ?_
    refine ev_loc f_X12_refuse (nx := 1) rfl rfl rfl rfl ?_
    refine ev_loc f_X12_refuse (nx := 2) rfl rfl rfl rfl ?_
    refine ev_putIT f_X12_refuse (nx := 5) rfl (hI.wf.s rfl) rfl rfl rfl (hI.put0 (hI.wf.s rfl) rfl rfl) (hX.upI rfl) (fun g3 e3 hI hX => ?_)
    refine ev_ic f_X12_refuse (nx := 6) (v := -1) rfl (by decide) rfl ?_
    refine ev_retK1 f_X12_refuse rfl rfl rfl ?_
    exact ev_ret f_X12_ship rfl rfl rfl ⟨_, _, _, rfl, hI, hX, ⟨_, rfl, (by decide : ((-1):Int) ≤ ((-1):Int32).toInt), (Int.le_trans (by decide : ((-1):Int32).toInt ≤ ((-1):Int)) (by decide : ((-1):Int) ≤ 120)), (show ∀ (D : s_D), t_ME 0 gi D → t_Cb D → ((0 ≤ ar1.toInt ∧ ar1.toInt < D 1 ∧ 0 ≤ ar2.toInt ∧ ar2.toInt ≤ 4) → ((-1) : Int) = D (52 + 5 * ar1.toNatClampNeg + ar2.toNatClampNeg)) ∧ (¬ (0 ≤ ar1.toInt ∧ ar1.toInt < D 1 ∧ 0 ≤ ar2.toInt ∧ ar2.toInt ≤ 4) → ((-1) : Int) = -1) from (by
                                                            intro D hm hb
                                                            have ha : (gi 70 1).toInt = D 1 := hm.1.1.2.1
                                                            exact ⟨fun h => absurd h (by omega), fun _ => rfl⟩))⟩⟩
  · have l4 : 0 ≤ ar1.toInt := t_lel (t_nlt h1) (by decide : (0:Int) ≤ (0:Int32).toInt)
    refine ev_loc f_X12_isShip (nx := 5) rfl rfl rfl rfl ?_
    refine ev_loc f_X12_isShip (nx := 6) rfl rfl rfl rfl ?_
    refine ev_getR f_X12_isShip (nx := 9) rfl (hI.wf.s rfl) rfl rfl (hI.wf.r rfl) rfl rfl ?_
    refine ev_ic f_X12_isShip (nx := 10) (v := 1) rfl (by decide) rfl ?_
    obtain ⟨l5, u5⟩ := hI.ab (by decide +kernel : t_abr 70 1 1 0 6 = true) (Nat.le_refl _) (Nat.le_refl _)
    refine ev_ialdv f_X12_isShip (nx := 11) (w := (gi 70 1)) rfl (hI.wf.s rfl) (by decide) (rfl : (1 : Int32).toNatClampNeg = 1) (by decide) rfl rfl ?_
    refine ev_if f_X12_isShip (t1 := 18) (t2 := 14) rfl rfl rfl (fun h6 => ?_) (fun h6 => ?_)
    · have r7 : (gi 70 1).toInt ≤ ar1.toInt := Int32.le_iff_toInt_le.mp h6
      refine ev_ic f_X12_isShip (nx := 19) (v := 0) rfl (by decide) rfl ?_
      refine ev_retK1 f_X12_isShip rfl rfl rfl ?_
      refine ev_t f_X12_ship (t1 := 37) (t2 := 8) rfl rfl rfl (by decide) ?_
      refine ev_loc f_X12_ship (nx := 38) rfl rfl rfl rfl ?_
      refine ev_ic f_X12_ship (nx := 39) (v := 1) rfl (by decide) rfl ?_
      refine ev_inV2 f_X12_ship (nx := 42) (lo2 := [(0, .ref 69), (1, .int 1)]) rfl rfl rfl rfl f_X12_refuse (hI.wf.s rfl) rfl rfl rfl rfl rfl ?_
      refine ev_loc f_X12_refuse (nx := 1) rfl rfl rfl rfl ?_
      refine ev_loc f_X12_refuse (nx := 2) rfl rfl rfl rfl ?_
      refine ev_putIT f_X12_refuse (nx := 5) rfl (hI.wf.s rfl) rfl rfl rfl (hI.put0 (hI.wf.s rfl) rfl rfl) (hX.upI rfl) (fun g8 e8 hI hX => ?_)
      refine ev_ic f_X12_refuse (nx := 6) (v := -1) rfl (by decide) rfl ?_
      refine ev_retK1 f_X12_refuse rfl rfl rfl ?_
      exact ev_ret f_X12_ship rfl rfl rfl ⟨_, _, _, rfl, hI, hX, ⟨_, rfl, (by decide : ((-1):Int) ≤ ((-1):Int32).toInt), (Int.le_trans (by decide : ((-1):Int32).toInt ≤ ((-1):Int)) (by decide : ((-1):Int) ≤ 120)), (show ∀ (D : s_D), t_ME 0 gi D → t_Cb D → ((0 ≤ ar1.toInt ∧ ar1.toInt < D 1 ∧ 0 ≤ ar2.toInt ∧ ar2.toInt ≤ 4) → ((-1) : Int) = D (52 + 5 * ar1.toNatClampNeg + ar2.toNatClampNeg)) ∧ (¬ (0 ≤ ar1.toInt ∧ ar1.toInt < D 1 ∧ 0 ≤ ar2.toInt ∧ ar2.toInt ≤ 4) → ((-1) : Int) = -1) from (by
                                                            intro D hm hb
                                                            have ha : (gi 70 1).toInt = D 1 := hm.1.1.2.1
                                                            exact ⟨fun h => absurd h (by omega), fun _ => rfl⟩))⟩⟩
    · have r9 : ar1.toInt < (gi 70 1).toInt := Int32.lt_iff_toInt_lt.mp (t_nle h6)
      have u10 : ar1.toInt ≤ 5 := t_ltu (t_nle h6) u5 rfl
      have l11 : 1 ≤ (gi 70 1).toInt := t_ltl (t_nle h6) l4 rfl
      refine ev_ic f_X12_isShip (nx := 15) (v := 1) rfl (by decide) rfl ?_
      refine ev_jmp f_X12_isShip (nx := 19) rfl rfl rfl ?_
      refine ev_retK1 f_X12_isShip rfl rfl rfl ?_
      refine ev_f f_X12_ship (t1 := 37) (t2 := 8) rfl rfl rfl (by decide) ?_
      refine ev_loc f_X12_ship (nx := 9) rfl rfl rfl rfl ?_
      refine ev_if f_X12_ship (t1 := 37) (t2 := 12) rfl rfl rfl (fun h12 => ?_) (fun h12 => ?_)
      · have u13 : ar2.toInt ≤ (-1) := t_ltu h12 (by decide : (0:Int32).toInt ≤ (0:Int)) rfl
        refine ev_loc f_X12_ship (nx := 38) rfl rfl rfl rfl ?_
        refine ev_ic f_X12_ship (nx := 39) (v := 1) rfl (by decide) rfl ?_
        refine ev_inV2 f_X12_ship (nx := 42) (lo2 := [(0, .ref 69), (1, .int 1)]) rfl rfl rfl rfl f_X12_refuse (hI.wf.s rfl) rfl rfl rfl rfl rfl ?_
        refine ev_loc f_X12_refuse (nx := 1) rfl rfl rfl rfl ?_
        refine ev_loc f_X12_refuse (nx := 2) rfl rfl rfl rfl ?_
        refine ev_putIT f_X12_refuse (nx := 5) rfl (hI.wf.s rfl) rfl rfl rfl (hI.put0 (hI.wf.s rfl) rfl rfl) (hX.upI rfl) (fun g14 e14 hI hX => ?_)
        refine ev_ic f_X12_refuse (nx := 6) (v := -1) rfl (by decide) rfl ?_
        refine ev_retK1 f_X12_refuse rfl rfl rfl ?_
        exact ev_ret f_X12_ship rfl rfl rfl ⟨_, _, _, rfl, hI, hX, ⟨_, rfl, (by decide : ((-1):Int) ≤ ((-1):Int32).toInt), (Int.le_trans (by decide : ((-1):Int32).toInt ≤ ((-1):Int)) (by decide : ((-1):Int) ≤ 120)), (show ∀ (D : s_D), t_ME 0 gi D → t_Cb D → ((0 ≤ ar1.toInt ∧ ar1.toInt < D 1 ∧ 0 ≤ ar2.toInt ∧ ar2.toInt ≤ 4) → ((-1) : Int) = D (52 + 5 * ar1.toNatClampNeg + ar2.toNatClampNeg)) ∧ (¬ (0 ≤ ar1.toInt ∧ ar1.toInt < D 1 ∧ 0 ≤ ar2.toInt ∧ ar2.toInt ≤ 4) → ((-1) : Int) = -1) from (by
                                                            intro D hm hb
                                                            have ha : (gi 70 1).toInt = D 1 := hm.1.1.2.1
                                                            exact ⟨fun h => absurd h (by omega), fun _ => rfl⟩))⟩⟩
      · have l15 : 0 ≤ ar2.toInt := t_lel (t_nlt h12) (by decide : (0:Int) ≤ (0:Int32).toInt)
        refine ev_loc f_X12_ship (nx := 13) rfl rfl rfl rfl ?_
        refine ev_ic f_X12_ship (nx := 14) (v := 4) rfl (by decide) rfl ?_
        refine ev_if f_X12_ship (t1 := 37) (t2 := 17) rfl rfl rfl (fun h16 => ?_) (fun h16 => ?_)
        · have l17 : 5 ≤ ar2.toInt := t_ltl h16 (by decide : (4:Int) ≤ (4:Int32).toInt) rfl
          refine ev_loc f_X12_ship (nx := 38) rfl rfl rfl rfl ?_
          refine ev_ic f_X12_ship (nx := 39) (v := 1) rfl (by decide) rfl ?_
          refine ev_inV2 f_X12_ship (nx := 42) (lo2 := [(0, .ref 69), (1, .int 1)]) rfl rfl rfl rfl f_X12_refuse (hI.wf.s rfl) rfl rfl rfl rfl rfl ?_
          refine ev_loc f_X12_refuse (nx := 1) rfl rfl rfl rfl ?_
          refine ev_loc f_X12_refuse (nx := 2) rfl rfl rfl rfl ?_
          refine ev_putIT f_X12_refuse (nx := 5) rfl (hI.wf.s rfl) rfl rfl rfl (hI.put0 (hI.wf.s rfl) rfl rfl) (hX.upI rfl) (fun g18 e18 hI hX => ?_)
          refine ev_ic f_X12_refuse (nx := 6) (v := -1) rfl (by decide) rfl ?_
          refine ev_retK1 f_X12_refuse rfl rfl rfl ?_
          exact ev_ret f_X12_ship rfl rfl rfl ⟨_, _, _, rfl, hI, hX, ⟨_, rfl, (by decide : ((-1):Int) ≤ ((-1):Int32).toInt), (Int.le_trans (by decide : ((-1):Int32).toInt ≤ ((-1):Int)) (by decide : ((-1):Int) ≤ 120)), (show ∀ (D : s_D), t_ME 0 gi D → t_Cb D → ((0 ≤ ar1.toInt ∧ ar1.toInt < D 1 ∧ 0 ≤ ar2.toInt ∧ ar2.toInt ≤ 4) → ((-1) : Int) = D (52 + 5 * ar1.toNatClampNeg + ar2.toNatClampNeg)) ∧ (¬ (0 ≤ ar1.toInt ∧ ar1.toInt < D 1 ∧ 0 ≤ ar2.toInt ∧ ar2.toInt ≤ 4) → ((-1) : Int) = -1) from (by
                                                            intro D hm hb
                                                            have ha : (gi 70 1).toInt = D 1 := hm.1.1.2.1
                                                            exact ⟨fun h => absurd h (by omega), fun _ => rfl⟩))⟩⟩
        · have u19 : ar2.toInt ≤ 4 := t_leu (t_nlt h16) (by decide : (4:Int32).toInt ≤ (4:Int))
          refine ev_loc f_X12_ship (nx := 18) rfl rfl rfl rfl ?_
          refine ev_loc f_X12_ship (nx := 19) rfl rfl rfl rfl ?_
          refine ev_getR f_X12_ship (nx := 22) rfl (hI.wf.s rfl) rfl rfl (hI.wf.r rfl) rfl rfl ?_
          refine ev_bp f_X12_ship (nx := 24) (v := 52) rfl (by decide) rfl ?_
          refine ev_ic f_X12_ship (nx := 25) (v := 5) rfl (by decide) rfl ?_
          refine ev_loc f_X12_ship (nx := 26) rfl rfl rfl rfl ?_
          refine ev_mulL f_X12_ship (nx := 27) (c := 5) (l := 0) (u := 25) rfl (by decide) (by decide) l4 u10 rfl rfl (by decide) (by decide) rfl (fun z20 e20 l20 u20 => ?_)
          refine ev_addK f_X12_ship (nx := 28) (c := 52) (l := 52) (u := 77) rfl (by decide) l20 u20 rfl rfl (by decide) (by decide) rfl (fun z21 e21 l21 u21 => ?_)
          refine ev_loc f_X12_ship (nx := 29) rfl rfl rfl rfl ?_
          refine ev_addR f_X12_ship (nx := 30) (l := 52) (u := 81) rfl l21 u21 l15 u19 rfl rfl (by decide) (by decide) rfl (fun z22 e22 l22 u22 => ?_)
          refine ev_ialdT f_X12_ship (nx := 31) rfl (hI.wf.s rfl) l22 (by decide) u22 (by decide) rfl (fun w23 e23 => ?_)
          obtain ⟨l23, u23⟩ := hI.abi e23 (by decide +kernel : t_abr 70 52 81 (-1) 120 = true) l22 (by decide) u22 (by decide)
          refine ev_inV2 f_X12_ship (nx := 34) (lo2 := [(0, .ref 69), (1, .int w23)]) rfl rfl rfl rfl f_X12_gives (hI.wf.s rfl) rfl rfl rfl rfl rfl ?_
          refine ev_loc f_X12_gives (nx := 1) rfl rfl rfl rfl ?_
          refine ev_ic f_X12_gives (nx := 2) (v := 0) rfl (by decide) rfl ?_
          refine ev_putIT f_X12_gives (nx := 5) rfl (hI.wf.s rfl) rfl rfl rfl (hI.put0 (hI.wf.s rfl) rfl rfl) (hX.upI rfl) (fun g24 e24 hI hX => ?_)
          refine ev_loc f_X12_gives (nx := 6) rfl rfl rfl rfl ?_
          refine ev_retK1 f_X12_gives rfl rfl rfl ?_
          refine ev_jmp f_X12_ship (nx := 42) rfl rfl rfl ?_
          exact ev_ret f_X12_ship rfl rfl rfl ⟨_, _, _, rfl, hI, hX, ⟨_, rfl, l23, u23, (show ∀ (D : s_D), t_ME 0 gi D → t_Cb D → ((0 ≤ ar1.toInt ∧ ar1.toInt < D 1 ∧ 0 ≤ ar2.toInt ∧ ar2.toInt ≤ 4) → w23.toInt = D (52 + 5 * ar1.toNatClampNeg + ar2.toNatClampNeg)) ∧ (¬ (0 ≤ ar1.toInt ∧ ar1.toInt < D 1 ∧ 0 ≤ ar2.toInt ∧ ar2.toInt ≤ 4) → w23.toInt = -1) from (by
                                                            intro D hm hb
                                                            have ha : (gi 70 1).toInt = D 1 := hm.1.1.2.1
                                                            have ka := t_clamp (i := ar1) (by omega)
                                                            have kb := t_clamp (i := ar2) (by omega)
                                                            have kc := t_clamp (i := z22) (by omega)
                                                            refine ⟨fun _ => ?_, fun h => absurd (show _ from ⟨by omega, by omega, by omega, by omega⟩) h⟩
                                                            have hd := hm.2.2.1 (52 + 5 * ar1.toNatClampNeg + ar2.toNatClampNeg) (by omega) (by omega)
                                                            rw [e23, show z22.toNatClampNeg = 0 + (52 + 5 * ar1.toNatClampNeg + ar2.toNatClampNeg) by omega]; exact hd))⟩⟩
noncomputable def wl_d_cart : List (Nat × Nat) := [(0, 0)]
noncomputable def Q_d_cart (gi : Nat → Nat → Int32) (gl : Nat → Nat → Int64) (gr : Nat → Nat → Value) (ar1 : Int32) (ar2 : Int32) : Int32 → (Nat → Nat → Int32) → (Nat → Nat → Int64) → (Nat → Nat → Value) → Prop := fun (v : Int32) (gi2 : Nat → Nat → Int32) (gl2 : Nat → Nat → Int64) (gr2 : Nat → Nat → Value) => ∀ (u : Nat) (D : s_D), gr 0 6 = .ref u → t_VL gr u → t_CV gi gl u D → t_Cb D → ((0 ≤ ar1.toInt ∧ ar1.toInt < D 2 ∧ 0 ≤ ar2.toInt ∧ ar2.toInt ≤ 2) → v.toInt = D (82 + 3 * ar1.toNatClampNeg + ar2.toNatClampNeg)) ∧ (¬ (0 ≤ ar1.toInt ∧ ar1.toInt < D 2 ∧ 0 ≤ ar2.toInt ∧ ar2.toInt ≤ 2) → v.toInt = -1)
theorem c_d_cart {X : x_Ext} {d : Nat} {sh : List (Nat ⊕ (Nat × Nat))} {gi : Nat → Nat → Int32} {gl : Nat → Nat → Int64} {gr : Nat → Nat → Value} (hI : t_I sh gi gr) (ar1 : Int32) (ar2 : Int32) : x_Me X (d + 2) n_X11_cart [.ref 0, .int ar1, .int ar2] (sh, gi, gl, gr) (t_PI wl_d_cart sh gi gl gr (-2147483648) 2147483647 (Q_d_cart gi gl gr ar1 ar2)) := by
  have hX : t_X wl_d_cart sh gi gl gr gi gl gr := t_X.rf
  refine me_i f_X11_cart (hI.wf.s rfl) rfl rfl rfl ?_
  refine ev_loc f_X11_cart (nx := 1) rfl rfl rfl rfl ?_
  refine ev_loc f_X11_cart (nx := 2) rfl rfl rfl rfl ?_
  refine ev_inV2 f_X11_cart (nx := 5) (lo2 := [(0, .ref 0), (1, .int ar1)]) rfl rfl rfl rfl f_X11_isCart (hI.wf.s rfl) rfl rfl rfl rfl rfl ?_
  refine ev_loc f_X11_isCart (nx := 1) rfl rfl rfl rfl ?_
  refine ev_if f_X11_isCart (t1 := 22) (t2 := 4) rfl rfl rfl (fun h1 => ?_) (fun h1 => ?_)
  · have u2 : ar1.toInt ≤ (-1) := t_ltu h1 (by decide : (0:Int32).toInt ≤ (0:Int)) rfl
    refine ev_ic f_X11_isCart (nx := 23) (v := 0) rfl (by decide) rfl ?_
    refine ev_retK1 f_X11_isCart rfl rfl rfl ?_
    refine ev_t f_X11_cart (t1 := 8) (t2 := 14) rfl rfl rfl (by decide) ?_
    refine ev_loc f_X11_cart (nx := 9) rfl rfl rfl rfl ?_
    refine ev_ic f_X11_cart (nx := 10) (v := 1) rfl (by decide) rfl ?_
    refine ev_inV2 f_X11_cart (nx := 13) (lo2 := [(0, .ref 0), (1, .int 1)]) rfl rfl rfl rfl f_X11_refuse (hI.wf.s rfl) rfl rfl rfl rfl rfl ?_
    refine ev_loc f_X11_refuse (nx := 1) rfl rfl rfl rfl ?_
    refine ev_loc f_X11_refuse (nx := 2) rfl rfl rfl rfl ?_
    refine ev_putIT f_X11_refuse (nx := 5) rfl (hI.wf.s rfl) rfl rfl rfl (hI.put0 (hI.wf.s rfl) rfl rfl) (hX.upI rfl) (fun g3 e3 hI hX => ?_)
    refine ev_ic f_X11_refuse (nx := 6) (v := -1) rfl (by decide) rfl ?_
    refine ev_retK1 f_X11_refuse rfl rfl rfl ?_
    exact ev_ret f_X11_cart rfl rfl rfl ⟨_, _, _, rfl, hI, hX, ⟨_, rfl, (Int.le_trans (by decide : ((-2147483648):Int) ≤ (-1)) (by decide : ((-1):Int) ≤ ((-1):Int32).toInt)), (Int.le_trans (by decide : ((-1):Int32).toInt ≤ ((-1):Int)) (by decide : ((-1):Int) ≤ 2147483647)), (show ∀ (u : Nat) (D : s_D), gr 0 6 = .ref u → t_VL gr u → t_CV gi gl u D → t_Cb D → ((0 ≤ ar1.toInt ∧ ar1.toInt < D 2 ∧ 0 ≤ ar2.toInt ∧ ar2.toInt ≤ 2) → ((-1) : Int) = D (82 + 3 * ar1.toNatClampNeg + ar2.toNatClampNeg)) ∧ (¬ (0 ≤ ar1.toInt ∧ ar1.toInt < D 2 ∧ 0 ≤ ar2.toInt ∧ ar2.toInt ≤ 2) → ((-1) : Int) = -1) from (by
                                                            intro u D hu hl hc hb
                                                            have hm := hc.2.2.2.1
                                                            exact ⟨fun h => absurd h (by omega), fun _ => rfl⟩))⟩⟩
  · have l4 : 0 ≤ ar1.toInt := t_lel (t_nlt h1) (by decide : (0:Int) ≤ (0:Int32).toInt)
    refine ev_loc f_X11_isCart (nx := 5) rfl rfl rfl rfl ?_
    refine ev_loc f_X11_isCart (nx := 6) rfl rfl rfl rfl ?_
    obtain ⟨a5, e5, p5⟩ := hI.2.2.2.1.1
    refine ev_getR f_X11_isCart (nx := 9) rfl (hI.wf.s rfl) rfl rfl e5 rfl rfl ?_
    obtain ⟨a6, e6, p6⟩ := p5.2.2.2.2.2
    refine ev_getR f_X11_isCart (nx := 12) rfl p5.1 rfl rfl e6 rfl rfl ?_
    refine ev_getI f_X11_isCart (nx := 15) rfl p6.1 rfl rfl rfl ?_
    obtain ⟨l7, u7⟩ := hI.b p6.1 (t_bdK rfl : t_bd 3 0 = some (0, 6))
    refine ev_if f_X11_isCart (t1 := 22) (t2 := 18) rfl rfl rfl (fun h8 => ?_) (fun h8 => ?_)
    · have r9 : (gi a6 0).toInt ≤ ar1.toInt := Int32.le_iff_toInt_le.mp h8
      refine ev_ic f_X11_isCart (nx := 23) (v := 0) rfl (by decide) rfl ?_
      refine ev_retK1 f_X11_isCart rfl rfl rfl ?_
      refine ev_t f_X11_cart (t1 := 8) (t2 := 14) rfl rfl rfl (by decide) ?_
      refine ev_loc f_X11_cart (nx := 9) rfl rfl rfl rfl ?_
      refine ev_ic f_X11_cart (nx := 10) (v := 1) rfl (by decide) rfl ?_
      refine ev_inV2 f_X11_cart (nx := 13) (lo2 := [(0, .ref 0), (1, .int 1)]) rfl rfl rfl rfl f_X11_refuse (hI.wf.s rfl) rfl rfl rfl rfl rfl ?_
      refine ev_loc f_X11_refuse (nx := 1) rfl rfl rfl rfl ?_
      refine ev_loc f_X11_refuse (nx := 2) rfl rfl rfl rfl ?_
      refine ev_putIT f_X11_refuse (nx := 5) rfl (hI.wf.s rfl) rfl rfl rfl (hI.put0 (hI.wf.s rfl) rfl rfl) (hX.upI rfl) (fun g10 e10 hI hX => ?_)
      refine ev_ic f_X11_refuse (nx := 6) (v := -1) rfl (by decide) rfl ?_
      refine ev_retK1 f_X11_refuse rfl rfl rfl ?_
      exact ev_ret f_X11_cart rfl rfl rfl ⟨_, _, _, rfl, hI, hX, ⟨_, rfl, (Int.le_trans (by decide : ((-2147483648):Int) ≤ (-1)) (by decide : ((-1):Int) ≤ ((-1):Int32).toInt)), (Int.le_trans (by decide : ((-1):Int32).toInt ≤ ((-1):Int)) (by decide : ((-1):Int) ≤ 2147483647)), (show ∀ (u : Nat) (D : s_D), gr 0 6 = .ref u → t_VL gr u → t_CV gi gl u D → t_Cb D → ((0 ≤ ar1.toInt ∧ ar1.toInt < D 2 ∧ 0 ≤ ar2.toInt ∧ ar2.toInt ≤ 2) → ((-1) : Int) = D (82 + 3 * ar1.toNatClampNeg + ar2.toNatClampNeg)) ∧ (¬ (0 ≤ ar1.toInt ∧ ar1.toInt < D 2 ∧ 0 ≤ ar2.toInt ∧ ar2.toInt ≤ 2) → ((-1) : Int) = -1) from (by
                                                            intro u D hu hl hc hb
                                                            have ha : a5 = u := Value.ref.inj (e5.symm.trans hu)
                                                            subst ha
                                                            have hb1 : (a5 + 10) = a6 := Value.ref.inj ((hl.1.2.2.2.2).symm.trans e6)
                                                            subst hb1
                                                            have hm := hc.2.2.2.1
                                                            exact ⟨fun h => absurd h (by omega), fun _ => rfl⟩))⟩⟩
    · have r11 : ar1.toInt < (gi a6 0).toInt := Int32.lt_iff_toInt_lt.mp (t_nle h8)
      have u12 : ar1.toInt ≤ 5 := t_ltu (t_nle h8) u7 rfl
      have l13 : 1 ≤ (gi a6 0).toInt := t_ltl (t_nle h8) l4 rfl
      refine ev_ic f_X11_isCart (nx := 19) (v := 1) rfl (by decide) rfl ?_
      refine ev_jmp f_X11_isCart (nx := 23) rfl rfl rfl ?_
      refine ev_retK1 f_X11_isCart rfl rfl rfl ?_
      refine ev_f f_X11_cart (t1 := 8) (t2 := 14) rfl rfl rfl (by decide) ?_
      refine ev_loc f_X11_cart (nx := 15) rfl rfl rfl rfl ?_
      have h14 : ar2.toInt = 0 ∨ ar2.toInt = 1 ∨ ar2.toInt = 2 ∨ (ar2.toInt ≠ 0 ∧ ar2.toInt ≠ 1 ∧ ar2.toInt ≠ 2) := by have := (t_lo ar2); have := (t_hi ar2); omega
      rcases h14 with h14 | h14 | h14 | h14
      · refine ev_swt f_X11_cart (nx := 40) (c := 0) rfl h14 rfl ?_
        refine ev_loc f_X11_cart (nx := 41) rfl rfl rfl rfl ?_
        refine ev_loc f_X11_cart (nx := 42) rfl rfl rfl rfl ?_
        refine ev_getR f_X11_cart (nx := 45) (v := .ref a5) rfl (hI.wf.s rfl) rfl rfl e5 rfl rfl ?_
        refine ev_getR f_X11_cart (nx := 48) (v := .ref a6) rfl p5.1 rfl rfl e6 rfl rfl ?_
        obtain ⟨a15, e15, s15, o15⟩ := p6.2.2.1
        refine ev_getR f_X11_cart (nx := 51) rfl p6.1 rfl rfl e15 rfl rfl ?_
        refine ev_loc f_X11_cart (nx := 52) rfl rfl rfl rfl ?_
        refine ev_ialdT f_X11_cart (nx := 53) rfl s15 l4 (by decide) u12 (by decide) rfl (fun w16 e16 => ?_)
        refine ev_inV2 f_X11_cart (nx := 56) (lo2 := [(0, .ref 0), (1, .int w16)]) rfl rfl rfl rfl f_X11_answer (hI.wf.s rfl) rfl rfl rfl rfl rfl ?_
        refine ev_loc f_X11_answer (nx := 1) rfl rfl rfl rfl ?_
        refine ev_ic f_X11_answer (nx := 2) (v := 0) rfl (by decide) rfl ?_
        refine ev_putIT f_X11_answer (nx := 5) rfl (hI.wf.s rfl) rfl rfl rfl (hI.put0 (hI.wf.s rfl) rfl rfl) (hX.upI rfl) (fun g17 e17 hI hX => ?_)
        refine ev_loc f_X11_answer (nx := 6) rfl rfl rfl rfl ?_
        refine ev_retK1 f_X11_answer rfl rfl rfl ?_
        exact ev_ret f_X11_cart rfl rfl rfl ⟨_, _, _, rfl, hI, hX, ⟨_, rfl, (t_lo w16), (t_hi w16), (show ∀ (u : Nat) (D : s_D), gr 0 6 = .ref u → t_VL gr u → t_CV gi gl u D → t_Cb D → ((0 ≤ ar1.toInt ∧ ar1.toInt < D 2 ∧ 0 ≤ ar2.toInt ∧ ar2.toInt ≤ 2) → w16.toInt = D (82 + 3 * ar1.toNatClampNeg + ar2.toNatClampNeg)) ∧ (¬ (0 ≤ ar1.toInt ∧ ar1.toInt < D 2 ∧ 0 ≤ ar2.toInt ∧ ar2.toInt ≤ 2) → w16.toInt = -1) from (by
                                                            intro u D hu hl hc hb
                                                            have ha : a5 = u := Value.ref.inj (e5.symm.trans hu)
                                                            subst ha
                                                            have hb1 : (a5 + 10) = a6 := Value.ref.inj ((hl.1.2.2.2.2).symm.trans e6)
                                                            subst hb1
                                                            have hb2 : (a5 + 10 + 2) = a15 := Value.ref.inj ((hl.2.2.2.1).symm.trans e15)
                                                            subst hb2
                                                            have hm := hc.2.2.2.1
                                                            have ka := t_clamp (i := ar1) (by omega)
                                                            have kb := t_clamp (i := ar2) (by omega)
                                                            have hs := hc.2.2.2.2 ar1.toNatClampNeg (by omega)
                                                            refine ⟨fun _ => ?_, fun h => absurd (show _ from ⟨by omega, by omega, by omega, by omega⟩) h⟩
                                                            rw [show 82 + 3 * ar1.toNatClampNeg + ar2.toNatClampNeg = 82 + 3 * ar1.toNatClampNeg by omega]
                                                            rw [e16]; exact hs.1))⟩⟩
      · refine ev_swt f_X11_cart (nx := 57) (c := 1) rfl h14 rfl ?_
        refine ev_loc f_X11_cart (nx := 58) rfl rfl rfl rfl ?_
        refine ev_loc f_X11_cart (nx := 59) rfl rfl rfl rfl ?_
        refine ev_getR f_X11_cart (nx := 62) (v := .ref a5) rfl (hI.wf.s rfl) rfl rfl e5 rfl rfl ?_
        refine ev_getR f_X11_cart (nx := 65) (v := .ref a6) rfl p5.1 rfl rfl e6 rfl rfl ?_
        obtain ⟨a18, e18, s18, o18⟩ := p6.2.2.2.1
        refine ev_getR f_X11_cart (nx := 68) rfl p6.1 rfl rfl e18 rfl rfl ?_
        refine ev_loc f_X11_cart (nx := 69) rfl rfl rfl rfl ?_
        refine ev_ialdT f_X11_cart (nx := 70) rfl s18 l4 (by decide) u12 (by decide) rfl (fun w19 e19 => ?_)
        refine ev_inV2 f_X11_cart (nx := 73) (lo2 := [(0, .ref 0), (1, .int w19)]) rfl rfl rfl rfl f_X11_answer (hI.wf.s rfl) rfl rfl rfl rfl rfl ?_
        refine ev_loc f_X11_answer (nx := 1) rfl rfl rfl rfl ?_
        refine ev_ic f_X11_answer (nx := 2) (v := 0) rfl (by decide) rfl ?_
        refine ev_putIT f_X11_answer (nx := 5) rfl (hI.wf.s rfl) rfl rfl rfl (hI.put0 (hI.wf.s rfl) rfl rfl) (hX.upI rfl) (fun g20 e20 hI hX => ?_)
        refine ev_loc f_X11_answer (nx := 6) rfl rfl rfl rfl ?_
        refine ev_retK1 f_X11_answer rfl rfl rfl ?_
        exact ev_ret f_X11_cart rfl rfl rfl ⟨_, _, _, rfl, hI, hX, ⟨_, rfl, (t_lo w19), (t_hi w19), (show ∀ (u : Nat) (D : s_D), gr 0 6 = .ref u → t_VL gr u → t_CV gi gl u D → t_Cb D → ((0 ≤ ar1.toInt ∧ ar1.toInt < D 2 ∧ 0 ≤ ar2.toInt ∧ ar2.toInt ≤ 2) → w19.toInt = D (82 + 3 * ar1.toNatClampNeg + ar2.toNatClampNeg)) ∧ (¬ (0 ≤ ar1.toInt ∧ ar1.toInt < D 2 ∧ 0 ≤ ar2.toInt ∧ ar2.toInt ≤ 2) → w19.toInt = -1) from (by
                                                            intro u D hu hl hc hb
                                                            have ha : a5 = u := Value.ref.inj (e5.symm.trans hu)
                                                            subst ha
                                                            have hb1 : (a5 + 10) = a6 := Value.ref.inj ((hl.1.2.2.2.2).symm.trans e6)
                                                            subst hb1
                                                            have hb2 : (a5 + 10 + 3) = a18 := Value.ref.inj ((hl.2.2.2.2.1).symm.trans e18)
                                                            subst hb2
                                                            have hm := hc.2.2.2.1
                                                            have ka := t_clamp (i := ar1) (by omega)
                                                            have kb := t_clamp (i := ar2) (by omega)
                                                            have hs := hc.2.2.2.2 ar1.toNatClampNeg (by omega)
                                                            refine ⟨fun _ => ?_, fun h => absurd (show _ from ⟨by omega, by omega, by omega, by omega⟩) h⟩
                                                            rw [show 82 + 3 * ar1.toNatClampNeg + ar2.toNatClampNeg = 83 + 3 * ar1.toNatClampNeg by omega]
                                                            rw [e19]; exact hs.2.1))⟩⟩
      · refine ev_swt f_X11_cart (nx := 74) (c := 2) rfl h14 rfl ?_
        refine ev_loc f_X11_cart (nx := 75) rfl rfl rfl rfl ?_
        refine ev_loc f_X11_cart (nx := 76) rfl rfl rfl rfl ?_
        refine ev_getR f_X11_cart (nx := 79) (v := .ref a5) rfl (hI.wf.s rfl) rfl rfl e5 rfl rfl ?_
        refine ev_getR f_X11_cart (nx := 82) (v := .ref a6) rfl p5.1 rfl rfl e6 rfl rfl ?_
        obtain ⟨a21, e21, s21, o21⟩ := p6.2.2.2.2.1
        refine ev_getR f_X11_cart (nx := 85) rfl p6.1 rfl rfl e21 rfl rfl ?_
        refine ev_loc f_X11_cart (nx := 86) rfl rfl rfl rfl ?_
        refine ev_ialdT f_X11_cart (nx := 87) rfl s21 l4 (by decide) u12 (by decide) rfl (fun w22 e22 => ?_)
        refine ev_inV2 f_X11_cart (nx := 90) (lo2 := [(0, .ref 0), (1, .int w22)]) rfl rfl rfl rfl f_X11_answer (hI.wf.s rfl) rfl rfl rfl rfl rfl ?_
        refine ev_loc f_X11_answer (nx := 1) rfl rfl rfl rfl ?_
        refine ev_ic f_X11_answer (nx := 2) (v := 0) rfl (by decide) rfl ?_
        refine ev_putIT f_X11_answer (nx := 5) rfl (hI.wf.s rfl) rfl rfl rfl (hI.put0 (hI.wf.s rfl) rfl rfl) (hX.upI rfl) (fun g23 e23 hI hX => ?_)
        refine ev_loc f_X11_answer (nx := 6) rfl rfl rfl rfl ?_
        refine ev_retK1 f_X11_answer rfl rfl rfl ?_
        exact ev_ret f_X11_cart rfl rfl rfl ⟨_, _, _, rfl, hI, hX, ⟨_, rfl, (t_lo w22), (t_hi w22), (show ∀ (u : Nat) (D : s_D), gr 0 6 = .ref u → t_VL gr u → t_CV gi gl u D → t_Cb D → ((0 ≤ ar1.toInt ∧ ar1.toInt < D 2 ∧ 0 ≤ ar2.toInt ∧ ar2.toInt ≤ 2) → w22.toInt = D (82 + 3 * ar1.toNatClampNeg + ar2.toNatClampNeg)) ∧ (¬ (0 ≤ ar1.toInt ∧ ar1.toInt < D 2 ∧ 0 ≤ ar2.toInt ∧ ar2.toInt ≤ 2) → w22.toInt = -1) from (by
                                                            intro u D hu hl hc hb
                                                            have ha : a5 = u := Value.ref.inj (e5.symm.trans hu)
                                                            subst ha
                                                            have hb1 : (a5 + 10) = a6 := Value.ref.inj ((hl.1.2.2.2.2).symm.trans e6)
                                                            subst hb1
                                                            have hb2 : (a5 + 10 + 4) = a21 := Value.ref.inj ((hl.2.2.2.2.2.1).symm.trans e21)
                                                            subst hb2
                                                            have hm := hc.2.2.2.1
                                                            have ka := t_clamp (i := ar1) (by omega)
                                                            have kb := t_clamp (i := ar2) (by omega)
                                                            have hs := hc.2.2.2.2 ar1.toNatClampNeg (by omega)
                                                            refine ⟨fun _ => ?_, fun h => absurd (show _ from ⟨by omega, by omega, by omega, by omega⟩) h⟩
                                                            rw [show 82 + 3 * ar1.toNatClampNeg + ar2.toNatClampNeg = 84 + 3 * ar1.toNatClampNeg by omega]
                                                            rw [e22]; exact hs.2.2.1))⟩⟩
      · refine ev_swtd f_X11_cart (nx := 91) rfl (by omega) (by decide) rfl ?_
        refine ev_loc f_X11_cart (nx := 92) rfl rfl rfl rfl ?_
        refine ev_ic f_X11_cart (nx := 93) (v := 1) rfl (by decide) rfl ?_
        refine ev_inV2 f_X11_cart (nx := 96) (lo2 := [(0, .ref 0), (1, .int 1)]) rfl rfl rfl rfl f_X11_refuse (hI.wf.s rfl) rfl rfl rfl rfl rfl ?_
        refine ev_loc f_X11_refuse (nx := 1) rfl rfl rfl rfl ?_
        refine ev_loc f_X11_refuse (nx := 2) rfl rfl rfl rfl ?_
        refine ev_putIT f_X11_refuse (nx := 5) rfl (hI.wf.s rfl) rfl rfl rfl (hI.put0 (hI.wf.s rfl) rfl rfl) (hX.upI rfl) (fun g24 e24 hI hX => ?_)
        refine ev_ic f_X11_refuse (nx := 6) (v := -1) rfl (by decide) rfl ?_
        refine ev_retK1 f_X11_refuse rfl rfl rfl ?_
        exact ev_ret f_X11_cart rfl rfl rfl ⟨_, _, _, rfl, hI, hX, ⟨_, rfl, (Int.le_trans (by decide : ((-2147483648):Int) ≤ (-1)) (by decide : ((-1):Int) ≤ ((-1):Int32).toInt)), (Int.le_trans (by decide : ((-1):Int32).toInt ≤ ((-1):Int)) (by decide : ((-1):Int) ≤ 2147483647)), (show ∀ (u : Nat) (D : s_D), gr 0 6 = .ref u → t_VL gr u → t_CV gi gl u D → t_Cb D → ((0 ≤ ar1.toInt ∧ ar1.toInt < D 2 ∧ 0 ≤ ar2.toInt ∧ ar2.toInt ≤ 2) → ((-1) : Int) = D (82 + 3 * ar1.toNatClampNeg + ar2.toNatClampNeg)) ∧ (¬ (0 ≤ ar1.toInt ∧ ar1.toInt < D 2 ∧ 0 ≤ ar2.toInt ∧ ar2.toInt ≤ 2) → ((-1) : Int) = -1) from (by
                                                            intro u D hu hl hc hb
                                                            have ha : a5 = u := Value.ref.inj (e5.symm.trans hu)
                                                            subst ha
                                                            have hb1 : (a5 + 10) = a6 := Value.ref.inj ((hl.1.2.2.2.2).symm.trans e6)
                                                            subst hb1
                                                            have hm := hc.2.2.2.1
                                                            exact ⟨fun h => absurd h (by omega), fun _ => rfl⟩))⟩⟩
noncomputable def wl_e_cart : List (Nat × Nat) := [(69, 2)]
noncomputable def Q_e_cart (gi : Nat → Nat → Int32) (gl : Nat → Nat → Int64) (gr : Nat → Nat → Value) (ar1 : Int32) (ar2 : Int32) : Int32 → (Nat → Nat → Int32) → (Nat → Nat → Int64) → (Nat → Nat → Value) → Prop := fun (v : Int32) (gi2 : Nat → Nat → Int32) (gl2 : Nat → Nat → Int64) (gr2 : Nat → Nat → Value) => ∀ (D : s_D), t_ME 0 gi D → t_Cb D → ((0 ≤ ar1.toInt ∧ ar1.toInt < D 2 ∧ 0 ≤ ar2.toInt ∧ ar2.toInt ≤ 2) → v.toInt = D (82 + 3 * ar1.toNatClampNeg + ar2.toNatClampNeg)) ∧ (¬ (0 ≤ ar1.toInt ∧ ar1.toInt < D 2 ∧ 0 ≤ ar2.toInt ∧ ar2.toInt ≤ 2) → v.toInt = -1)
theorem c_e_cart {X : x_Ext} {d : Nat} {sh : List (Nat ⊕ (Nat × Nat))} {gi : Nat → Nat → Int32} {gl : Nat → Nat → Int64} {gr : Nat → Nat → Value} (hI : t_I sh gi gr) (ar1 : Int32) (ar2 : Int32) : x_Me X (d + 2) n_X12_cart [.ref 69, .int ar1, .int ar2] (sh, gi, gl, gr) (t_PI wl_e_cart sh gi gl gr (-1) 120 (Q_e_cart gi gl gr ar1 ar2)) := by
  have hX : t_X wl_e_cart sh gi gl gr gi gl gr := t_X.rf
  refine me_i f_X12_cart (hI.wf.s rfl) rfl rfl rfl ?_
  refine ev_loc f_X12_cart (nx := 1) rfl rfl rfl rfl ?_
  refine ev_loc f_X12_cart (nx := 2) rfl rfl rfl rfl ?_
  refine ev_inV2 f_X12_cart (nx := 5) (lo2 := [(0, .ref 69), (1, .int ar1)]) rfl rfl rfl rfl f_X12_isCart (hI.wf.s rfl) rfl rfl rfl rfl rfl ?_
  refine ev_loc f_X12_isCart (nx := 1) rfl rfl rfl rfl ?_
  refine ev_if f_X12_isCart (t1 := 18) (t2 := 4) rfl rfl rfl (fun h1 => ?_) (fun h1 => ?_)
  · have u2 : ar1.toInt ≤ (-1) := t_ltu h1 (by decide : (0:Int32).toInt ≤ (0:Int)) rfl
    refine ev_ic f_X12_isCart (nx := 19) (v := 0) rfl (by decide) rfl ?_
    refine ev_retK1 f_X12_isCart rfl rfl rfl ?_
    refine ev_t f_X12_cart (t1 := 37) (t2 := 8) rfl rfl rfl (by decide) ?_
    refine ev_loc f_X12_cart (nx := 38) rfl rfl rfl rfl ?_
    refine ev_ic f_X12_cart (nx := 39) (v := 1) rfl (by decide) rfl ?_
    refine ev_inV2 f_X12_cart (nx := 42) (lo2 := [(0, .ref 69), (1, .int 1)]) rfl rfl rfl rfl f_X12_refuse (hI.wf.s rfl) rfl rfl rfl rfl rfl ?_
    refine ev_loc f_X12_refuse (nx := 1) rfl rfl rfl rfl ?_
    refine ev_loc f_X12_refuse (nx := 2) rfl rfl rfl rfl ?_
    refine ev_putIT f_X12_refuse (nx := 5) rfl (hI.wf.s rfl) rfl rfl rfl (hI.put0 (hI.wf.s rfl) rfl rfl) (hX.upI rfl) (fun g3 e3 hI hX => ?_)
    refine ev_ic f_X12_refuse (nx := 6) (v := -1) rfl (by decide) rfl ?_
    refine ev_retK1 f_X12_refuse rfl rfl rfl ?_
    exact ev_ret f_X12_cart rfl rfl rfl ⟨_, _, _, rfl, hI, hX, ⟨_, rfl, (by decide : ((-1):Int) ≤ ((-1):Int32).toInt), (Int.le_trans (by decide : ((-1):Int32).toInt ≤ ((-1):Int)) (by decide : ((-1):Int) ≤ 120)), (show ∀ (D : s_D), t_ME 0 gi D → t_Cb D → ((0 ≤ ar1.toInt ∧ ar1.toInt < D 2 ∧ 0 ≤ ar2.toInt ∧ ar2.toInt ≤ 2) → ((-1) : Int) = D (82 + 3 * ar1.toNatClampNeg + ar2.toNatClampNeg)) ∧ (¬ (0 ≤ ar1.toInt ∧ ar1.toInt < D 2 ∧ 0 ≤ ar2.toInt ∧ ar2.toInt ≤ 2) → ((-1) : Int) = -1) from (by
                                                            intro D hm hb
                                                            have ha : (gi 70 2).toInt = D 2 := hm.1.1.2.2
                                                            exact ⟨fun h => absurd h (by omega), fun _ => rfl⟩))⟩⟩
  · have l4 : 0 ≤ ar1.toInt := t_lel (t_nlt h1) (by decide : (0:Int) ≤ (0:Int32).toInt)
    refine ev_loc f_X12_isCart (nx := 5) rfl rfl rfl rfl ?_
    refine ev_loc f_X12_isCart (nx := 6) rfl rfl rfl rfl ?_
    refine ev_getR f_X12_isCart (nx := 9) rfl (hI.wf.s rfl) rfl rfl (hI.wf.r rfl) rfl rfl ?_
    refine ev_ic f_X12_isCart (nx := 10) (v := 2) rfl (by decide) rfl ?_
    obtain ⟨l5, u5⟩ := hI.ab (by decide +kernel : t_abr 70 2 2 0 6 = true) (Nat.le_refl _) (Nat.le_refl _)
    refine ev_ialdv f_X12_isCart (nx := 11) (w := (gi 70 2)) rfl (hI.wf.s rfl) (by decide) (rfl : (2 : Int32).toNatClampNeg = 2) (by decide) rfl rfl ?_
    refine ev_if f_X12_isCart (t1 := 18) (t2 := 14) rfl rfl rfl (fun h6 => ?_) (fun h6 => ?_)
    · have r7 : (gi 70 2).toInt ≤ ar1.toInt := Int32.le_iff_toInt_le.mp h6
      refine ev_ic f_X12_isCart (nx := 19) (v := 0) rfl (by decide) rfl ?_
      refine ev_retK1 f_X12_isCart rfl rfl rfl ?_
      refine ev_t f_X12_cart (t1 := 37) (t2 := 8) rfl rfl rfl (by decide) ?_
      refine ev_loc f_X12_cart (nx := 38) rfl rfl rfl rfl ?_
      refine ev_ic f_X12_cart (nx := 39) (v := 1) rfl (by decide) rfl ?_
      refine ev_inV2 f_X12_cart (nx := 42) (lo2 := [(0, .ref 69), (1, .int 1)]) rfl rfl rfl rfl f_X12_refuse (hI.wf.s rfl) rfl rfl rfl rfl rfl ?_
      refine ev_loc f_X12_refuse (nx := 1) rfl rfl rfl rfl ?_
      refine ev_loc f_X12_refuse (nx := 2) rfl rfl rfl rfl ?_
      refine ev_putIT f_X12_refuse (nx := 5) rfl (hI.wf.s rfl) rfl rfl rfl (hI.put0 (hI.wf.s rfl) rfl rfl) (hX.upI rfl) (fun g8 e8 hI hX => ?_)
      refine ev_ic f_X12_refuse (nx := 6) (v := -1) rfl (by decide) rfl ?_
      refine ev_retK1 f_X12_refuse rfl rfl rfl ?_
      exact ev_ret f_X12_cart rfl rfl rfl ⟨_, _, _, rfl, hI, hX, ⟨_, rfl, (by decide : ((-1):Int) ≤ ((-1):Int32).toInt), (Int.le_trans (by decide : ((-1):Int32).toInt ≤ ((-1):Int)) (by decide : ((-1):Int) ≤ 120)), (show ∀ (D : s_D), t_ME 0 gi D → t_Cb D → ((0 ≤ ar1.toInt ∧ ar1.toInt < D 2 ∧ 0 ≤ ar2.toInt ∧ ar2.toInt ≤ 2) → ((-1) : Int) = D (82 + 3 * ar1.toNatClampNeg + ar2.toNatClampNeg)) ∧ (¬ (0 ≤ ar1.toInt ∧ ar1.toInt < D 2 ∧ 0 ≤ ar2.toInt ∧ ar2.toInt ≤ 2) → ((-1) : Int) = -1) from (by
                                                            intro D hm hb
                                                            have ha : (gi 70 2).toInt = D 2 := hm.1.1.2.2
                                                            exact ⟨fun h => absurd h (by omega), fun _ => rfl⟩))⟩⟩
    · have r9 : ar1.toInt < (gi 70 2).toInt := Int32.lt_iff_toInt_lt.mp (t_nle h6)
      have u10 : ar1.toInt ≤ 5 := t_ltu (t_nle h6) u5 rfl
      have l11 : 1 ≤ (gi 70 2).toInt := t_ltl (t_nle h6) l4 rfl
      refine ev_ic f_X12_isCart (nx := 15) (v := 1) rfl (by decide) rfl ?_
      refine ev_jmp f_X12_isCart (nx := 19) rfl rfl rfl ?_
      refine ev_retK1 f_X12_isCart rfl rfl rfl ?_
      refine ev_f f_X12_cart (t1 := 37) (t2 := 8) rfl rfl rfl (by decide) ?_
      refine ev_loc f_X12_cart (nx := 9) rfl rfl rfl rfl ?_
      refine ev_if f_X12_cart (t1 := 37) (t2 := 12) rfl rfl rfl (fun h12 => ?_) (fun h12 => ?_)
      · have u13 : ar2.toInt ≤ (-1) := t_ltu h12 (by decide : (0:Int32).toInt ≤ (0:Int)) rfl
        refine ev_loc f_X12_cart (nx := 38) rfl rfl rfl rfl ?_
        refine ev_ic f_X12_cart (nx := 39) (v := 1) rfl (by decide) rfl ?_
        refine ev_inV2 f_X12_cart (nx := 42) (lo2 := [(0, .ref 69), (1, .int 1)]) rfl rfl rfl rfl f_X12_refuse (hI.wf.s rfl) rfl rfl rfl rfl rfl ?_
        refine ev_loc f_X12_refuse (nx := 1) rfl rfl rfl rfl ?_
        refine ev_loc f_X12_refuse (nx := 2) rfl rfl rfl rfl ?_
        refine ev_putIT f_X12_refuse (nx := 5) rfl (hI.wf.s rfl) rfl rfl rfl (hI.put0 (hI.wf.s rfl) rfl rfl) (hX.upI rfl) (fun g14 e14 hI hX => ?_)
        refine ev_ic f_X12_refuse (nx := 6) (v := -1) rfl (by decide) rfl ?_
        refine ev_retK1 f_X12_refuse rfl rfl rfl ?_
        exact ev_ret f_X12_cart rfl rfl rfl ⟨_, _, _, rfl, hI, hX, ⟨_, rfl, (by decide : ((-1):Int) ≤ ((-1):Int32).toInt), (Int.le_trans (by decide : ((-1):Int32).toInt ≤ ((-1):Int)) (by decide : ((-1):Int) ≤ 120)), (show ∀ (D : s_D), t_ME 0 gi D → t_Cb D → ((0 ≤ ar1.toInt ∧ ar1.toInt < D 2 ∧ 0 ≤ ar2.toInt ∧ ar2.toInt ≤ 2) → ((-1) : Int) = D (82 + 3 * ar1.toNatClampNeg + ar2.toNatClampNeg)) ∧ (¬ (0 ≤ ar1.toInt ∧ ar1.toInt < D 2 ∧ 0 ≤ ar2.toInt ∧ ar2.toInt ≤ 2) → ((-1) : Int) = -1) from (by
                                                            intro D hm hb
                                                            have ha : (gi 70 2).toInt = D 2 := hm.1.1.2.2
                                                            exact ⟨fun h => absurd h (by omega), fun _ => rfl⟩))⟩⟩
      · have l15 : 0 ≤ ar2.toInt := t_lel (t_nlt h12) (by decide : (0:Int) ≤ (0:Int32).toInt)
        refine ev_loc f_X12_cart (nx := 13) rfl rfl rfl rfl ?_
        refine ev_ic f_X12_cart (nx := 14) (v := 2) rfl (by decide) rfl ?_
        refine ev_if f_X12_cart (t1 := 37) (t2 := 17) rfl rfl rfl (fun h16 => ?_) (fun h16 => ?_)
        · have l17 : 3 ≤ ar2.toInt := t_ltl h16 (by decide : (2:Int) ≤ (2:Int32).toInt) rfl
          refine ev_loc f_X12_cart (nx := 38) rfl rfl rfl rfl ?_
          refine ev_ic f_X12_cart (nx := 39) (v := 1) rfl (by decide) rfl ?_
          refine ev_inV2 f_X12_cart (nx := 42) (lo2 := [(0, .ref 69), (1, .int 1)]) rfl rfl rfl rfl f_X12_refuse (hI.wf.s rfl) rfl rfl rfl rfl rfl ?_
          refine ev_loc f_X12_refuse (nx := 1) rfl rfl rfl rfl ?_
          refine ev_loc f_X12_refuse (nx := 2) rfl rfl rfl rfl ?_
          refine ev_putIT f_X12_refuse (nx := 5) rfl (hI.wf.s rfl) rfl rfl rfl (hI.put0 (hI.wf.s rfl) rfl rfl) (hX.upI rfl) (fun g18 e18 hI hX => ?_)
          refine ev_ic f_X12_refuse (nx := 6) (v := -1) rfl (by decide) rfl ?_
          refine ev_retK1 f_X12_refuse rfl rfl rfl ?_
          exact ev_ret f_X12_cart rfl rfl rfl ⟨_, _, _, rfl, hI, hX, ⟨_, rfl, (by decide : ((-1):Int) ≤ ((-1):Int32).toInt), (Int.le_trans (by decide : ((-1):Int32).toInt ≤ ((-1):Int)) (by decide : ((-1):Int) ≤ 120)), (show ∀ (D : s_D), t_ME 0 gi D → t_Cb D → ((0 ≤ ar1.toInt ∧ ar1.toInt < D 2 ∧ 0 ≤ ar2.toInt ∧ ar2.toInt ≤ 2) → ((-1) : Int) = D (82 + 3 * ar1.toNatClampNeg + ar2.toNatClampNeg)) ∧ (¬ (0 ≤ ar1.toInt ∧ ar1.toInt < D 2 ∧ 0 ≤ ar2.toInt ∧ ar2.toInt ≤ 2) → ((-1) : Int) = -1) from (by
                                                            intro D hm hb
                                                            have ha : (gi 70 2).toInt = D 2 := hm.1.1.2.2
                                                            exact ⟨fun h => absurd h (by omega), fun _ => rfl⟩))⟩⟩
        · have u19 : ar2.toInt ≤ 2 := t_leu (t_nlt h16) (by decide : (2:Int32).toInt ≤ (2:Int))
          refine ev_loc f_X12_cart (nx := 18) rfl rfl rfl rfl ?_
          refine ev_loc f_X12_cart (nx := 19) rfl rfl rfl rfl ?_
          refine ev_getR f_X12_cart (nx := 22) rfl (hI.wf.s rfl) rfl rfl (hI.wf.r rfl) rfl rfl ?_
          refine ev_bp f_X12_cart (nx := 24) (v := 82) rfl (by decide) rfl ?_
          refine ev_ic f_X12_cart (nx := 25) (v := 3) rfl (by decide) rfl ?_
          refine ev_loc f_X12_cart (nx := 26) rfl rfl rfl rfl ?_
          refine ev_mulL f_X12_cart (nx := 27) (c := 3) (l := 0) (u := 15) rfl (by decide) (by decide) l4 u10 rfl rfl (by decide) (by decide) rfl (fun z20 e20 l20 u20 => ?_)
          refine ev_addK f_X12_cart (nx := 28) (c := 82) (l := 82) (u := 97) rfl (by decide) l20 u20 rfl rfl (by decide) (by decide) rfl (fun z21 e21 l21 u21 => ?_)
          refine ev_loc f_X12_cart (nx := 29) rfl rfl rfl rfl ?_
          refine ev_addR f_X12_cart (nx := 30) (l := 82) (u := 99) rfl l21 u21 l15 u19 rfl rfl (by decide) (by decide) rfl (fun z22 e22 l22 u22 => ?_)
          refine ev_ialdT f_X12_cart (nx := 31) rfl (hI.wf.s rfl) l22 (by decide) u22 (by decide) rfl (fun w23 e23 => ?_)
          obtain ⟨l23, u23⟩ := hI.abi e23 (by decide +kernel : t_abr 70 82 99 0 120 = true) l22 (by decide) u22 (by decide)
          refine ev_inV2 f_X12_cart (nx := 34) (lo2 := [(0, .ref 69), (1, .int w23)]) rfl rfl rfl rfl f_X12_gives (hI.wf.s rfl) rfl rfl rfl rfl rfl ?_
          refine ev_loc f_X12_gives (nx := 1) rfl rfl rfl rfl ?_
          refine ev_ic f_X12_gives (nx := 2) (v := 0) rfl (by decide) rfl ?_
          refine ev_putIT f_X12_gives (nx := 5) rfl (hI.wf.s rfl) rfl rfl rfl (hI.put0 (hI.wf.s rfl) rfl rfl) (hX.upI rfl) (fun g24 e24 hI hX => ?_)
          refine ev_loc f_X12_gives (nx := 6) rfl rfl rfl rfl ?_
          refine ev_retK1 f_X12_gives rfl rfl rfl ?_
          refine ev_jmp f_X12_cart (nx := 42) rfl rfl rfl ?_
          exact ev_ret f_X12_cart rfl rfl rfl ⟨_, _, _, rfl, hI, hX, ⟨_, rfl, (Int.le_trans (by decide : ((-1):Int) ≤ 0) l23), u23, (show ∀ (D : s_D), t_ME 0 gi D → t_Cb D → ((0 ≤ ar1.toInt ∧ ar1.toInt < D 2 ∧ 0 ≤ ar2.toInt ∧ ar2.toInt ≤ 2) → w23.toInt = D (82 + 3 * ar1.toNatClampNeg + ar2.toNatClampNeg)) ∧ (¬ (0 ≤ ar1.toInt ∧ ar1.toInt < D 2 ∧ 0 ≤ ar2.toInt ∧ ar2.toInt ≤ 2) → w23.toInt = -1) from (by
                                                            intro D hm hb
                                                            have ha : (gi 70 2).toInt = D 2 := hm.1.1.2.2
                                                            have ka := t_clamp (i := ar1) (by omega)
                                                            have kb := t_clamp (i := ar2) (by omega)
                                                            have kc := t_clamp (i := z22) (by omega)
                                                            refine ⟨fun _ => ?_, fun h => absurd (show _ from ⟨by omega, by omega, by omega, by omega⟩) h⟩
                                                            have hd := hm.2.2.2 (82 + 3 * ar1.toNatClampNeg + ar2.toNatClampNeg) (by omega) (by omega)
                                                            rw [e23, show z22.toNatClampNeg = 0 + (82 + 3 * ar1.toNatClampNeg + ar2.toNatClampNeg) by omega]; exact hd))⟩⟩
/-! ===== RIVERS through river(), rules(), MARKS; what is told of SHIPS, CARTS ===== -/
section DLAW
variable {sh sh1 : List (Nat ⊕ (Nat × Nat))} {gi g1 g2 : Nat → Nat → Int32} {gl l1 l2 : Nat → Nat → Int64} {gr r1 r2 : Nat → Nat → Value} {w1 w2 : List (Nat × Nat)} {A A2 x1 x2 : Int32}
/-- the other side's call leaves the class's cells -/
theorem t_D_m (x : t_X w2 sh1 g1 l1 r1 g2 l2 r2) (hw : (t_ndB w2 && (t_un w2 (0, 6) && (t_un w2 (0, 12) && t_nc w2 19))) = true) : (∀ K, (3 ≤ K ∧ K < 19) ∨ 102 ≤ K → g2 K = g1 K ∧ l2 K = l1 K ∧ r2 K = r1 K) ∧ r2 0 6 = r1 0 6 ∧ g2 0 12 = g1 0 12 ∧ r2 19 = r1 19 := by
  simp only [Bool.and_eq_true] at hw
  have f := t_F_X x
  exact ⟨t_nd_fr x hw.1, (f 0 6 (by decide) (t_un_ok hw.2.1)).2.2, (f 0 12 (by decide) (t_un_ok hw.2.2.1)).1, t_F_nr f hw.2.2.2 (by decide)⟩
theorem t_DR_river (hT : t_TP gi) (hR : t_R gi gr) (hD : t_DR sh.length gi gl gr) (h102 : 102 ≤ sh.length) (hle : sh.length ≤ sh1.length) (hm3 : (gi 0 12).toInt ≤ 3) (f1 : t_F w1 gi gl gr g1 l1 r1) (hw1 : (t_nc w1 75 && (t_nc w1 70 && (t_nc w1 19 && t_un w1 (0, 12)))) = true) (h69 : t_in w1 69 10 = false) (xm : t_X w2 sh1 g1 l1 r1 g2 l2 r2) (hw2 : (t_ndB w2 && (t_un w2 (0, 6) && (t_un w2 (0, 12) && t_nc w2 19))) = true) (em : ∀ j, 350 ≤ j → j < 1400 → g2 70 j = g1 70 j) (q1 : ((0 ≤ A.toInt ∧ A.toInt ≤ (gi 0 5).toInt) → ∀ n : Nat, (n : Int) = A.toInt → t_RES gi gl gr sh.length (gi 2) n x1 g1 l1 r1) ∧ (¬ (0 ≤ A.toInt ∧ A.toInt ≤ (gi 0 5).toInt) → x1.toInt = -1 ∧ (∀ K, K ≠ 0 → g1 K = gi K ∧ l1 K = gl K ∧ r1 K = gr K) ∧ r1 0 6 = gr 0 6 ∧ r1 0 7 = gr 0 7) ∧ (0 ≤ A.toInt ∧ A.toInt ≤ (gi 0 5).toInt → sh.length + 18 ≤ sh1.length)) (q2 : Q_n_river g1 l1 r1 A x2 g2 l2 r2) : t_DR sh1.length g2 l2 r2 := by
  simp only [Bool.and_eq_true] at hw1
  obtain ⟨n75, n70, n19, n12⟩ := hw1
  have e0 : (gi 0 5).toInt = (gi 69 10).toInt := congrArg Int32.toInt (t_R_fed hR)
  have e1 : (g1 69 10).toInt = (gi 69 10).toInt := congrArg Int32.toInt (f1 69 10 (by decide) h69).1
  have r75 : g1 75 = gi 75 := t_F_nc f1 n75 (by decide)
  have r70 : g1 70 = gi 70 := t_F_nc f1 n70 (by decide)
  have r12 : g1 0 12 = gi 0 12 := (f1 0 12 (by decide) (t_un_ok n12)).1
  have r19 : r1 19 = gr 19 := t_F_nr f1 n19 (by decide)
  obtain ⟨m0, m6, m12, m19⟩ := t_D_m xm hw2
  obtain ⟨k1, k2⟩ := q2
  have same : r1 0 6 = gr 0 6 → (∀ K, K ≠ 0 → K < sh.length → g1 K = gi K ∧ l1 K = gl K ∧ r1 K = gr K) → (∀ j : Nat, j < 350 → g2 70 j = g1 70 j) → t_DR sh1.length g2 l2 r2 := by
    intro s6 sK s70
    refine t_DR_gen hD hle (fun K hK => ?_) (m6.trans s6) (m12.trans r12) (m19.trans r19) (fun j hj _ _ _ => ?_) hm3
    · have a := m0 K (by omega)
      have b := sK K (by omega) (by omega)
      exact ⟨a.1.trans b.1, a.2.1.trans b.2.1, a.2.2.trans b.2.2⟩
    · by_cases hj3 : j < 350
      · rw [s70 j hj3, r70]
      · rw [em j (by omega) hj, r70]
  by_cases hin : 0 ≤ A.toInt ∧ A.toInt ≤ (gi 0 5).toInt
  · obtain ⟨n, hn⟩ : ∃ n : Nat, (n : Int) = A.toInt := ⟨A.toInt.toNat, by omega⟩
    obtain ⟨p1, pl⟩ := q1.1 hin n hn
    have p2 := k1 (by omega) (gi 2) n hn (fun j hj => by rw [r75]; exact (hT j (by omega)).1.symm) (fun j hj => (hT j (by omega)).2)
    have hlen := q1.2.2 hin
    have pl2 : ∀ K, K ≠ 0 → K < sh.length → g1 K = gi K ∧ l1 K = gl K ∧ r1 K = gr K := fun K a b => pl K a b
    rcases p1 with ⟨q, D, a1, a2, a3, a4, a5, a6, a7, a8⟩ | ⟨p, x, D, a0, a1, a2, a3, a4, a5, a6⟩
    · rcases p2 with ⟨q', D', b1, b2, b3, b4, b5, b6⟩ | ⟨p', x', D', b0, b1, -⟩
      · obtain rfl := s_ok_D (a1.symm.trans b1)
        refine ⟨⟨sh.length + 2, m6.trans a5, D, b2, ⟨Or.inr (by omega), by omega⟩, a8.fr (fun K c1 c2 => m0 K (by omega)), a7.cv.fr (fun K c1 c2 => m0 K (by omega)), b4.e⟩, fun k hk => ?_⟩
        rw [m12, r12] at hk
        obtain ⟨u, h4, h5⟩ := hD.2 k hk
        refine ⟨u, by rw [m19, r19]; exact h4, h5.fr hle (fun K hK => ?_) (fun j a b c => ?_)⟩
        · have a := m0 K (by omega)
          have b := pl2 K (by omega) (by omega)
          exact ⟨a.1.trans b.1, a.2.1.trans b.2.1, a.2.2.trans b.2.2⟩
        · rw [em _ (by omega) (by omega), r70]
      · exact (s_ok_bad b0 (a1.symm.trans b1)).elim
    · rcases p2 with ⟨q', D', b1, -⟩ | ⟨p', x', D', b0, b1, b2, b3, b4, b5⟩
      · exact (s_ok_bad a0 (b1.symm.trans a1)).elim
      · exact same a5 pl2 b5
  · have h := q1.2.1 hin
    exact same h.2.2.1 (fun K a _ => h.2.1 K a) (k2 (by omega)).2
/-- RULES: no RIVER is touched -/
theorem t_DR_rules (hD : t_DR sh.length gi gl gr) (h102 : 102 ≤ sh.length) (hle : sh.length ≤ sh1.length) (hm3 : (gi 0 12).toInt ≤ 3) (f1 : t_F w1 gi gl gr g1 l1 r1) (hw1 : (t_nc w1 70 && (t_nc w1 19 && t_un w1 (0, 12))) = true) (xm : t_X w2 sh1 g1 l1 r1 g2 l2 r2) (hw2 : (t_ndB w2 && (t_un w2 (0, 6) && (t_un w2 (0, 12) && t_nc w2 19))) = true) (em : ∀ j, j < 1400 → j % 350 ≠ 3 → j % 350 ≠ 8 → j % 350 < 100 → g2 70 j = g1 70 j) (q1 : ((0 ≤ A.toInt ∧ A.toInt ≤ (gi 0 5).toInt ∧ A.toInt ≤ 300) → ∀ n : Nat, (n : Int) = A.toInt → t_RSR gi gl gr sh.length (gi 2) n x1 g1 l1 r1) ∧ (¬ (0 ≤ A.toInt ∧ A.toInt ≤ (gi 0 5).toInt ∧ A.toInt ≤ 300) → x1.toInt = -1 ∧ (∀ K, K ≠ 0 → g1 K = gi K ∧ l1 K = gl K ∧ r1 K = gr K) ∧ r1 0 6 = gr 0 6 ∧ r1 0 7 = gr 0 7)) : t_DR sh1.length g2 l2 r2 := by
  simp only [Bool.and_eq_true] at hw1
  obtain ⟨n70, n19, n12⟩ := hw1
  have r70 : g1 70 = gi 70 := t_F_nc f1 n70 (by decide)
  have r12 : g1 0 12 = gi 0 12 := (f1 0 12 (by decide) (t_un_ok n12)).1
  have r19 : r1 19 = gr 19 := t_F_nr f1 n19 (by decide)
  obtain ⟨m0, m6, m12, m19⟩ := t_D_m xm hw2
  have key : r1 0 6 = gr 0 6 ∧ ∀ K, K ≠ 0 → K < sh.length → g1 K = gi K ∧ l1 K = gl K ∧ r1 K = gr K := by
    by_cases hin : 0 ≤ A.toInt ∧ A.toInt ≤ (gi 0 5).toInt ∧ A.toInt ≤ 300
    · obtain ⟨n, hn⟩ : ∃ n : Nat, (n : Int) = A.toInt := ⟨A.toInt.toNat, by omega⟩
      obtain ⟨p1, pl⟩ := q1.1 hin n hn
      refine ⟨?_, fun K a b => pl K a b⟩
      rcases p1 with ⟨k, a1, a2, a3, a4, a5, a6⟩ | ⟨p, x, a0, a1, a2, a3, a4, a5, a6⟩
      · exact a5
      · exact a5
    · have h := q1.2 hin
      exact ⟨h.2.2.1, fun K a _ => h.2.1 K a⟩
  refine t_DR_gen hD hle (fun K hK => ?_) (m6.trans key.1) (m12.trans r12) (m19.trans r19) (fun j hj a b c => ?_) hm3
  · have a := m0 K (by omega)
    have b := key.2 K (by omega) (by omega)
    exact ⟨a.1.trans b.1, a.2.1.trans b.2.1, a.2.2.trans b.2.2⟩
  · rw [em j hj a b c, r70]
theorem t_DR_mark (hR : t_R gi gr) (hD : t_DR sh.length gi gl gr) (hm0 : 0 ≤ (gi 0 12).toInt) (hm3 : (gi 0 12).toInt ≤ 3) (xh : t_X w1 sh gi gl gr g1 l1 r1) (hw1 : (t_ndB w1 && (t_un w1 (0, 6) && (t_nc w1 70 && t_un w1 (69, 75)))) = true) (xm : t_X w2 sh g1 l1 r1 g2 l2 r2) (hw2 : (t_ndB w2 && (t_un w2 (0, 6) && (t_un w2 (0, 12) && t_nc w2 19))) = true) (hc : ((gi 0 12).toInt = 3 → (g1 0 12).toInt = 3) ∧ ((gi 0 12).toInt ≠ 3 → (g1 0 12).toInt = (gi 0 12).toInt + 1)) (q1 : Q_d_mark gi gl gr x1 g1 l1 r1) (q2 : ((g1 69 75).toInt = 3 → g2 70 = g1 70) ∧ ((g1 69 75).toInt ≠ 3 → ∀ j, g2 70 j = t_cpy (g1 70) 0 ((g1 69 75).toInt.toNat + 1) 350 j)) : t_DR sh.length g2 l2 r2 := by
  simp only [Bool.and_eq_true] at hw1
  obtain ⟨n0, n6, n70, n75⟩ := hw1
  have f1 := t_F_X xh
  have c0 := t_nd_fr xh n0
  have r6 : r1 0 6 = gr 0 6 := (f1 0 6 (by decide) (t_un_ok n6)).2.2
  have r70 : g1 70 = gi 70 := t_F_nc f1 n70 (by decide)
  have r75 : (g1 69 75).toInt = (gi 0 12).toInt := by rw [(f1 69 75 (by decide) (t_un_ok n75)).1, ← t_R_mk hR]
  obtain ⟨m0, m6, m12, m19⟩ := t_D_m xm hw2
  have fr : ∀ K, (3 ≤ K ∧ K < 19) ∨ (102 ≤ K ∧ K < sh.length) → g2 K = gi K ∧ l2 K = gl K ∧ r2 K = gr K := fun K hK => by
    have a := m0 K (by omega)
    have b := c0 K (by omega)
    exact ⟨a.1.trans b.1, a.2.1.trans b.2.1, a.2.2.trans b.2.2⟩
  obtain ⟨d1, d2⟩ := q1
  obtain ⟨v, hv, hs⟩ := hD.1
  by_cases h3 : (gi 0 12).toInt = 3
  · have e70 : ∀ j, g2 70 j = gi 70 j := fun j => by rw [q2.1 (by omega), r70]
    refine ⟨⟨v, by rw [m6, r6]; exact hv, hs.fr (Nat.le_refl _) fr (fun j _ _ _ => e70 _)⟩, fun k hk => ?_⟩
    rw [m12] at hk
    obtain ⟨u, h4, h5⟩ := hD.2 k (by have := hc.1 h3; omega)
    exact ⟨u, by rw [m19, (d2 h3).1]; exact h4, h5.fr (Nat.le_refl _) fr (fun j _ _ _ => e70 _)⟩
  · have e70 : ∀ j, g2 70 j = t_cpy (gi 70) 0 ((gi 0 12).toInt.toNat + 1) 350 j := fun j => by rw [q2.2 (by omega), r70, r75]
    have ec := hc.2 h3
    have off : ∀ j, (j < 350 * ((gi 0 12).toInt.toNat + 1) ∨ 350 * ((gi 0 12).toInt.toNat + 1) + 350 ≤ j) → g2 70 j = gi 70 j := fun j hj => by
      rw [e70]; unfold t_cpy; rw [if_neg (by omega)]
    refine ⟨⟨v, by rw [m6, r6]; exact hv, hs.fr (Nat.le_refl _) fr (fun j _ _ _ => off _ (by omega))⟩, fun k hk => ?_⟩
    rw [m12] at hk
    by_cases hkm : (k : Int) = (gi 0 12).toInt
    · refine ⟨v, by rw [m19, (d1 h3).1, if_pos hkm]; exact hv, hs.fr (Nat.le_refl _) fr (fun j hj _ _ => ?_)⟩
      rw [e70]; unfold t_cpy
      rw [if_pos (by omega), show 350 * (k + 1) + j - 350 * ((gi 0 12).toInt.toNat + 1) + 350 * 0 = 0 + j by omega]
    · obtain ⟨u, h4, h5⟩ := hD.2 k (by omega)
      exact ⟨u, by rw [m19, (d1 h3).1, if_neg hkm]; exact h4, h5.fr (Nat.le_refl _) fr (fun j hj _ _ => off _ (by omega))⟩
theorem t_DR_back (hR : t_R gi gr) (hD : t_DR sh.length gi gl gr) (hm0 : 0 ≤ (gi 0 12).toInt) (hm3 : (gi 0 12).toInt ≤ 3) (xh : t_X w1 sh gi gl gr g1 l1 r1) (hw1 : (t_ndB w1 && (t_nc w1 19 && (t_nc w1 70 && t_un w1 (69, 75)))) = true) (xm : t_X w2 sh g1 l1 r1 g2 l2 r2) (hw2 : (t_ndB w2 && (t_un w2 (0, 6) && (t_un w2 (0, 12) && t_nc w2 19))) = true) (hc : ((gi 0 12).toInt = 0 → (g1 0 12).toInt = 0) ∧ ((gi 0 12).toInt ≠ 0 → (g1 0 12).toInt = (gi 0 12).toInt - 1)) (q1 : Q_d_back gi gl gr x1 g1 l1 r1) (q2 : ((g1 69 75).toInt = 0 → g2 70 = g1 70) ∧ ((g1 69 75).toInt ≠ 0 → ∀ j, g2 70 j = t_cpy (g1 70) (g1 69 75).toInt.toNat 0 350 j)) : t_DR sh.length g2 l2 r2 := by
  simp only [Bool.and_eq_true] at hw1
  obtain ⟨n0, n19, n70, n75⟩ := hw1
  have f1 := t_F_X xh
  have c0 := t_nd_fr xh n0
  have r19 : r1 19 = gr 19 := t_F_nr f1 n19 (by decide)
  have r70 : g1 70 = gi 70 := t_F_nc f1 n70 (by decide)
  have r75 : (g1 69 75).toInt = (gi 0 12).toInt := by rw [(f1 69 75 (by decide) (t_un_ok n75)).1, ← t_R_mk hR]
  obtain ⟨m0, m6, m12, m19⟩ := t_D_m xm hw2
  have fr : ∀ K, (3 ≤ K ∧ K < 19) ∨ (102 ≤ K ∧ K < sh.length) → g2 K = gi K ∧ l2 K = gl K ∧ r2 K = gr K := fun K hK => by
    have a := m0 K (by omega)
    have b := c0 K (by omega)
    exact ⟨a.1.trans b.1, a.2.1.trans b.2.1, a.2.2.trans b.2.2⟩
  obtain ⟨d1, d2⟩ := q1
  by_cases h3 : (gi 0 12).toInt = 0
  · obtain ⟨v, hv, hs⟩ := hD.1
    have e70 : ∀ j, g2 70 j = gi 70 j := fun j => by rw [q2.1 (by omega), r70]
    refine ⟨⟨v, by rw [m6, (d1 h3).1]; exact hv, hs.fr (Nat.le_refl _) fr (fun j _ _ _ => e70 _)⟩, fun k hk => ?_⟩
    rw [m12] at hk
    have := hc.1 h3
    omega
  · have e70 : ∀ j, g2 70 j = t_cpy (gi 70) (gi 0 12).toInt.toNat 0 350 j := fun j => by rw [q2.2 (by omega), r70, r75]
    have ec := hc.2 h3
    have off : ∀ j, 350 ≤ j → g2 70 j = gi 70 j := fun j hj => by
      rw [e70]; unfold t_cpy; rw [if_neg (by omega)]
    obtain ⟨v, hv, hs⟩ := hD.2 ((gi 0 12).toInt - 1).toNat (by omega)
    refine ⟨⟨v, by rw [m6, (d2 h3).1]; exact hv, hs.fr (Nat.le_refl _) fr (fun j hj _ _ => ?_)⟩, fun k hk => ?_⟩
    · rw [e70]; unfold t_cpy
      rw [if_pos (by omega), show 0 + j - 350 * 0 + 350 * (gi 0 12).toInt.toNat = 350 * (((gi 0 12).toInt - 1).toNat + 1) + j by omega]
    · rw [m12] at hk
      obtain ⟨u, h4, h5⟩ := hD.2 k (by omega)
      exact ⟨u, by rw [m19, r19]; exact h4, h5.fr (Nat.le_refl _) fr (fun j hj _ _ => off _ (by omega))⟩
/-- a sail is one or none -/
theorem t_D_sail {D : s_D} (hI : t_I sh gi gr) (hb : t_Cb D) (hm : t_ME 0 gi D) : ∀ s : Nat, (s : Int) < D 1 → 0 ≤ D (56 + 5 * s) ∧ D (56 + 5 * s) ≤ 1 := by
  intro s hs
  have h1 := hm.2.2.1 (56 + 5 * s) (by omega) (by omega)
  rw [Nat.zero_add] at h1
  have hs6 : s = 0 ∨ s = 1 ∨ s = 2 ∨ s = 3 ∨ s = 4 ∨ s = 5 := by have := hb.2.1.2; omega
  have key : 0 ≤ (gi 70 (56 + 5 * s)).toInt ∧ (gi 70 (56 + 5 * s)).toInt ≤ 1 := by
    rcases hs6 with rfl | rfl | rfl | rfl | rfl | rfl
    · exact hI.ab (i := 56) (j := 56) (by decide +kernel) (Nat.le_refl _) (Nat.le_refl _)
    · exact hI.ab (i := 61) (j := 61) (by decide +kernel) (Nat.le_refl _) (Nat.le_refl _)
    · exact hI.ab (i := 66) (j := 66) (by decide +kernel) (Nat.le_refl _) (Nat.le_refl _)
    · exact hI.ab (i := 71) (j := 71) (by decide +kernel) (Nat.le_refl _) (Nat.le_refl _)
    · exact hI.ab (i := 76) (j := 76) (by decide +kernel) (Nat.le_refl _) (Nat.le_refl _)
    · exact hI.ab (i := 81) (j := 81) (by decide +kernel) (Nat.le_refl _) (Nat.le_refl _)
  rw [h1] at key
  exact key
/-- the slot of the other side behind the class's call -/
theorem t_D_0 (hD : t_DR sh.length gi gl gr) (f1 : t_F w1 gi gl gr g1 l1 r1) (h70 : t_nc w1 70 = true) : ∃ (u : Nat) (D : s_D), gr 0 6 = .ref u ∧ t_VL gr u ∧ t_CV gi gl u D ∧ t_Cb D ∧ t_ME 0 g1 D ∧ t_ME 0 gi D := by
  obtain ⟨u, hu, D, hb, -, hl, hc, hm⟩ := hD.1
  have r70 : g1 70 = gi 70 := t_F_nc f1 h70 (by decide)
  exact ⟨u, D, hu, hl, hc, hb, by unfold t_ME; rw [r70]; exact hm, hm⟩
theorem t_L_ship (hI : t_I sh gi gr) (hD : t_DR sh.length gi gl gr) (f1 : t_F w1 gi gl gr g1 l1 r1) (h70 : t_nc w1 70 = true) (q1 : Q_d_ship gi gl gr A A2 x1 g1 l1 r1) (q2 : Q_e_ship g1 l1 r1 A A2 x2 g2 l2 r2) : x1 = x2 := by
  obtain ⟨u, D, hu, hl, hc, hb, hm, hm'⟩ := t_D_0 hD f1 h70
  have k1 := q1 u D hu hl hc hb (t_D_sail hI hb hm')
  have k2 := q2 D hm hb
  apply Int32.toInt_inj.mp
  by_cases hin : 0 ≤ A.toInt ∧ A.toInt < D 1 ∧ 0 ≤ A2.toInt ∧ A2.toInt ≤ 4
  · rw [k1.1 hin, k2.1 hin]
  · rw [k1.2 hin, k2.2 hin]
theorem t_L_cart (hD : t_DR sh.length gi gl gr) (f1 : t_F w1 gi gl gr g1 l1 r1) (h70 : t_nc w1 70 = true) (q1 : Q_d_cart gi gl gr A A2 x1 g1 l1 r1) (q2 : Q_e_cart g1 l1 r1 A A2 x2 g2 l2 r2) : x1 = x2 := by
  obtain ⟨u, D, hu, hl, hc, hb, hm, -⟩ := t_D_0 hD f1 h70
  have k1 := q1 u D hu hl hc hb
  have k2 := q2 D hm hb
  apply Int32.toInt_inj.mp
  by_cases hin : 0 ≤ A.toInt ∧ A.toInt < D 2 ∧ 0 ≤ A2.toInt ∧ A2.toInt ≤ 2
  · rw [k1.1 hin, k2.1 hin]
  · rw [k1.2 hin, k2.2 hin]
end DLAW
/-! ===== RIVERS: the start; RULES' places ===== -/
noncomputable def t_nGB (wl : List (Nat × Nat)) (k lo hi : Nat) : Bool := wl.all (fun q => !(q.1 == k) || (!(q.2 == 9999) && (if q.2 < 10000 then decide (q.2 < lo) || decide (hi ≤ q.2) else decide ((q.2 - 10000) % 100000 < lo) || decide (hi ≤ (q.2 - 10000) / 100000))))
theorem t_nD {wl : List (Nat × Nat)} (h : (t_nGB wl 70 0 3 && (t_nGB wl 70 4 8 && (t_nGB wl 70 9 100 && t_nGB wl 70 350 1400))) = true) {j : Nat} (a : j < 1400) (b : j % 350 ≠ 3) (c : j % 350 ≠ 8) (d : j % 350 < 100) : t_in wl 70 j = false := by
  simp only [Bool.and_eq_true] at h
  obtain ⟨h1, h2, h3, h4⟩ := h
  by_cases q : 350 ≤ j
  · exact t_nG h4 q a
  · have e : j % 350 = j := Nat.mod_eq_of_lt (by omega)
    rw [e] at b c d
    by_cases q1 : j < 3
    · exact t_nG h1 (Nat.zero_le _) q1
    · by_cases q2 : j < 8
      · exact t_nG h2 (by omega) q2
      · exact t_nG h3 (by omega) d
theorem W1_DR {sh : List (Nat ⊕ (Nat × Nat))} {gi : Nat → Nat → Int32} {gl : Nat → Nat → Int64} {gr : Nat → Nat → Value} (hR : x_R W1 (sh, gi, gl, gr)) : t_DR sh.length gi gl gr := by
  have hw := W1_WF hR
  have hrd : ∀ {k j : Nat} {c : x_C}, x_gc W1 k = some c → j < 2 ^ x_dp c.1 → gi k j = x_cI c j := fun hc hj => ((x_gc_R hR hc).2.2.2 _ hj).1
  have hl : 102 ≤ sh.length := t_102 hw
  have z3 : ∀ {j : Nat} {x : Int32}, j < 2 ^ x_dp w1_c3.1 → x_cI w1_c3 j = x → gi 3 j = x := fun hj e => (hrd (c := w1_c3) rfl hj).trans e
  have z70 : ∀ {j : Nat} {x : Int32}, j < 2 ^ x_dp w1_c70.1 → x_cI w1_c70 j = x → gi 70 j = x := fun hj e => (hrd (c := w1_c70) rfl hj).trans e
  refine ⟨⟨3, ((x_gc_R hR (c := w1_c0) rfl).2.2.2 6 (by decide)).2.2.trans rfl, s_D0, ⟨⟨by decide, by decide⟩, ⟨by decide, by decide⟩, by decide, by decide⟩, ⟨Or.inl rfl, by omega⟩, ⟨⟨hw.r rfl, hw.r rfl, hw.r rfl, hw.r rfl, hw.r rfl⟩, ⟨hw.r rfl, hw.r rfl, hw.r rfl, hw.r rfl, hw.r rfl⟩, hw.r rfl, hw.r rfl, hw.r rfl, hw.r rfl, hw.r rfl⟩, ?_, ?_⟩, fun k hk => ?_⟩
  · have a0 : gi 3 0 = 0 := z3 (by decide) rfl
    have a3 : gi 3 3 = 5 := z3 (by decide) rfl
    have a4 : gi 3 4 = 0 := z3 (by decide) rfl
    have a5 : gi 3 5 = 0 := z3 (by decide) rfl
    have a6 : gi 3 6 = 0 := z3 (by decide) rfl
    have b0 : gi 6 0 = 0 := (hrd (c := w1_c6) rfl (by decide)).trans rfl
    have c0 : gi 13 0 = 0 := (hrd (c := w1_c13) rfl (by decide)).trans rfl
    refine ⟨⟨by rw [a0]; rfl, fun i hi => absurd (show (i : Int) < 0 from hi) (by omega)⟩, ⟨by rw [a3]; rfl, by rw [a4]; rfl, by rw [a5]; rfl, by rw [a6]; rfl⟩, ⟨?_, fun i hi => absurd (show (i : Int) < 0 from hi) (by omega)⟩, ?_, fun i hi => absurd (show (i : Int) < 0 from hi) (by omega)⟩
    · show (gi 6 0).toInt = 0; rw [b0]; rfl
    · show (gi 13 0).toInt = 0; rw [c0]; rfl
  · have a0 : gi 70 0 = 0 := z70 (by decide) rfl
    have a1 : gi 70 1 = 0 := z70 (by decide) rfl
    have a2 : gi 70 2 = 0 := z70 (by decide) rfl
    have a4 : gi 70 4 = 5 := z70 (by decide) rfl
    have a5 : gi 70 5 = 0 := z70 (by decide) rfl
    have a6 : gi 70 6 = 0 := z70 (by decide) rfl
    have a7 : gi 70 7 = 0 := z70 (by decide) rfl
    refine ⟨⟨⟨by rw [a0]; rfl, ?_, ?_⟩, ?_, ?_, ?_, ?_⟩, fun i hi => absurd (show (i : Int) < 0 from hi) (by omega), fun j hj hj2 => ?_, fun j hj hj2 => ?_⟩
    · show (gi 70 1).toInt = 0; rw [a1]; rfl
    · show (gi 70 2).toInt = 0; rw [a2]; rfl
    · show (gi 70 4).toInt = 5; rw [a4]; rfl
    · show (gi 70 5).toInt = 0; rw [a5]; rfl
    · show (gi 70 6).toInt = 0; rw [a6]; rfl
    · show (gi 70 7).toInt = 0; rw [a7]; rfl
    · have h : (j : Int) < 52 + 5 * 0 := hj2
      omega
    · have h : (j : Int) < 82 + 3 * 0 := hj2
      omega
  · have h12 : gi 0 12 = 0 := hrd (c := w1_c0) rfl (by decide)
    have h0 : (0 : Int32).toInt = 0 := rfl
    rw [h12] at hk; omega
noncomputable def t_LD (c : Nat) (sh : List (Nat ⊕ (Nat × Nat))) (gi : Nat → Nat → Int32) (gl : Nat → Nat → Int64) (gr : Nat → Nat → Value) : Prop := t_LT c sh gi gl gr ∧ t_DR sh.length gi gl gr
/-! ===== SOUND of a call, on both sides ===== -/
noncomputable def s_bi (s : Int64) (b : Int) : Nat → Int64
  | 0 => s
  | i + 1 => s_bi s b i ||| ((1 : Int64) <<< ((Int32.ofInt (b + (i : Nat))).toInt64 &&& 63))
noncomputable def s_bn (x : Int32) : Nat := if x.toInt = 108 then 3 else 1
noncomputable def s_bt (f : Nat → Int32) : Nat → Int64 × Int
  | 0 => (0, 0)
  | k + 1 => (s_bi (s_bt f k).1 (s_bt f k).2 (s_bn (f k)), (s_bt f k).2 + ((s_bn (f k) : Nat) + 1))
theorem s_bi_s {s v v' m : Int64} {b : Int} {y i z : Int32} (h : v = s_bi s b i.toNatClampNeg) (h0 : 0 ≤ i.toInt) (ey : y.toInt = b + i.toInt) (em : m = 1 <<< (y.toInt64 &&& 63)) (ev : v' = v ||| m) (hz : z.toInt = i.toInt + 1) : v' = s_bi s b z.toNatClampNeg := by
  have c1 := t_clamp (i := i) h0
  have c2 := t_clamp (i := z) (by omega)
  rw [show z.toNatClampNeg = i.toNatClampNeg + 1 by omega]
  show v' = s_bi s b i.toNatClampNeg ||| ((1 : Int64) <<< ((Int32.ofInt (b + (i.toNatClampNeg : Nat))).toInt64 &&& 63))
  rw [ev, em, ← h, show b + ((i.toNatClampNeg : Nat) : Int) = y.toInt by omega, Int32.ofInt_toInt]
theorem s_bt_s {f : Nat → Int32} {v : Int64} {k i z n b b' : Int32} (hs : v = s_bi (s_bt f k.toNatClampNeg).1 (s_bt f k.toNatClampNeg).2 i.toNatClampNeg) (hb : b.toInt = (s_bt f k.toNatClampNeg).2) (hn : n.toInt = (s_bn (f k.toNatClampNeg) : Nat)) (hi : i.toInt = n.toInt) (h0 : 0 ≤ k.toInt) (hz : z.toInt = k.toInt + 1) (hb2 : b'.toInt = b.toInt + (n.toInt + 1)) : v = (s_bt f z.toNatClampNeg).1 ∧ b'.toInt = (s_bt f z.toNatClampNeg).2 := by
  have c1 := t_clamp (i := k) h0
  have c2 := t_clamp (i := z) (by omega)
  have c3 := t_clamp (i := i) (by omega)
  rw [show z.toNatClampNeg = k.toNatClampNeg + 1 by omega]
  refine ⟨?_, ?_⟩
  · show v = s_bi (s_bt f k.toNatClampNeg).1 (s_bt f k.toNatClampNeg).2 (s_bn (f k.toNatClampNeg))
    rw [hs, show i.toNatClampNeg = s_bn (f k.toNatClampNeg) by omega]
  · show b'.toInt = (s_bt f k.toNatClampNeg).2 + ((s_bn (f k.toNatClampNeg) : Nat) + 1)
    omega
theorem s_bt_cg {f g : Nat → Int32} : ∀ k : Nat, (∀ t, t < k → f t = g t) → s_bt f k = s_bt g k
  | 0, _ => rfl
  | k + 1, h => by
    show (s_bi (s_bt f k).1 (s_bt f k).2 (s_bn (f k)), (s_bt f k).2 + ((s_bn (f k) : Nat) + 1)) = (s_bi (s_bt g k).1 (s_bt g k).2 (s_bn (g k)), (s_bt g k).2 + ((s_bn (g k) : Nat) + 1))
    rw [s_bt_cg k (fun t ht => h t (by omega)), h k (by omega)]
/-- all words of so many letters -/
noncomputable def s_wl : Nat → List (List Bool)
  | 0 => [[]]
  | n + 1 => (s_wl n).flatMap (fun l => [true :: l, false :: l])
theorem s_wl_mem : ∀ l : List Bool, l ∈ s_wl l.length
  | [] => List.mem_singleton.mpr rfl
  | x :: l => by
    show x :: l ∈ (s_wl l.length).flatMap (fun l => [true :: l, false :: l])
    refine List.mem_flatMap.mpr ⟨l, s_wl_mem l, ?_⟩
    cases x
    · exact List.mem_cons_of_mem _ List.mem_cons_self
    · exact List.mem_cons_self
noncomputable def s_fl (l : List Bool) (t : Nat) : Int32 := if l.getD t false = true then 108 else 115
theorem s_bs_all : ((List.range 7).all (fun k => (s_wl k).all (fun l => decide ((s_bt (s_fl l) k).1 = s_snd (s_ll (s_fl l) 0 k))))) = true := by decide +kernel
theorem s_bs {b : Nat → Int32} {q k : Nat} (hk : k ≤ 6) (hl : ∀ t, t < k → (b (q + t)).toInt = 108 ∨ (b (q + t)).toInt = 115) : (s_bt (fun t => b (q + t)) k).1 = s_snd (s_ll b q k) := by
  have hlen : ((List.range k).map (fun t => decide ((b (q + t)).toInt = 108))).length = k := by rw [List.length_map, List.length_range]
  have e : ∀ t, t < k → b (q + t) = s_fl ((List.range k).map (fun t => decide ((b (q + t)).toInt = 108))) t := by
    intro t ht
    have hg : ((List.range k).map (fun t => decide ((b (q + t)).toInt = 108))).getD t false = decide ((b (q + t)).toInt = 108) := by
      rw [List.getD_eq_getElem?_getD, List.getElem?_map, List.getElem?_range ht]; rfl
    unfold s_fl
    rw [hg]
    apply Int32.toInt_inj.mp
    rcases hl t ht with h | h
    · rw [if_pos (by rw [h]; rfl), h]; rfl
    · rw [if_neg (by rw [h]; decide), h]; rfl
  rw [s_bt_cg k e, s_ll_cg (b := b) (q := q) (b' := s_fl ((List.range k).map (fun t => decide ((b (q + t)).toInt = 108)))) (q' := 0) (fun t ht => by rw [Nat.zero_add]; exact e t ht)]
  have h1 := List.all_eq_true.mp s_bs_all k (List.mem_range.mpr (by omega))
  have h2 := s_wl_mem ((List.range k).map (fun t => decide ((b (q + t)).toInt = 108)))
  rw [hlen] at h2
  exact of_decide_eq_true (List.all_eq_true.mp h1 _ h2)
/-- SOUND of a PORT, by what is told -/
noncomputable def s_so (D : s_D) (p : Nat) : Int64 := s_snd (Int64.ofInt (D (10 + p)))
theorem s_so_m {f : Nat → Int32} {D : s_D} {p : Nat} {m : Int32} (h : t_prt f (D (10 + p))) (hm : m = f 0) : (s_bt (fun t => f (1 + t)) m.toNatClampNeg).1 = s_so D p := by
  obtain ⟨b, q, k, ⟨hk, hw, hl⟩, h0, h1, h2, hx⟩ := h
  have hc := t_clamp (i := m) (by rw [hm]; omega)
  have hmk : m.toNatClampNeg = k := by have hmi : m.toInt = (k : Int) := by rw [hm]; exact h0
                                       omega
  rw [hmk, s_bt_cg k h1, s_bs hk hl]
  unfold s_so
  rw [hx, Int64.ofInt_toInt]
theorem s_so_h {gl : Nat → Nat → Int64} {u p : Nat} {D : s_D} (h : (gl (u + 1) p).toInt = D (10 + p) ∧ gl (u + 2) p = s_snd (gl (u + 1) p)) : gl (u + 2) p = s_so D p := by
  unfold s_so
  rw [h.2, ← h.1, Int64.ofInt_toInt]
/-- HEARD, so many BEATS later, too -/
noncomputable def s_ec (s : Int64) (e : Int) : Int64 := s ||| (s <<< ((Int32.ofInt e).toInt64 &&& 63))
theorem s_ec_0 (s : Int64) : s_ec s 0 = s := by
  unfold s_ec
  have h : (Int32.ofInt 0).toInt64 &&& 63 = 0 := by decide
  rw [h]
  apply Int64.toBitVec_inj.mp
  show s.toBitVec ||| (s.toBitVec <<< _) = s.toBitVec
  simp
theorem s_ec_e {s m v : Int64} {e : Int32} {x : Int} (em : m = s <<< (e.toInt64 &&& 63)) (ev : v = s ||| m) (hx : e.toInt = x) : v = s_ec s x := by
  unfold s_ec
  rw [ev, em, ← hx, Int32.ofInt_toInt]
noncomputable def s_hd (D : s_D) (p : Int) : Int64 := s_if (0 ≤ p ∧ p < D 0) (s_ec (s_so D p.toNat) (D 7)) 0
theorem s_prt_0 {f : Nat → Int32} {x : Int} (h : t_prt f x) : 0 ≤ (f 0).toInt := by
  obtain ⟨b, q, k, _, h0, _⟩ := h; rw [h0]; omega
/-- what is reckoned from a slot, is SOUND -/
theorem s_so_q {g : Nat → Int32} {D : s_D} {p k n : Nat} {m zf : Int32} {v : Int64} (h : t_prt (fun t => g (k + t)) (D (10 + p))) (hm : m = g n) (hn : n = k) (hz : zf.toNatClampNeg = k + 1) (q : 0 ≤ m.toInt → v = (s_bt (fun t => g (zf.toNatClampNeg + t)) m.toNatClampNeg).1) : v = s_so D p := by
  subst hn
  have h0 : 0 ≤ m.toInt := by rw [hm]; exact s_prt_0 h
  rw [q h0, ← s_so_m h hm]
  exact congrArg Prod.fst (s_bt_cg _ (fun t _ => by rw [hz, Nat.add_assoc]))
theorem s_hd_i {D : s_D} {p : Int} (h0 : 0 ≤ p) (h1 : p < D 0) : s_hd D p = s_ec (s_so D p.toNat) (D 7) := s_ifT ⟨h0, h1⟩
theorem s_hd_o {D : s_D} {p : Int} (h : ¬ (0 ≤ p ∧ p < D 0)) : s_hd D p = 0 := s_ifF h
/-! ===== printed by riv.py: SOUND and HEARD ===== -/
noncomputable def wl_d_heardOf : List (Nat × Nat) := []
noncomputable def Q_d_heardOf (gi : Nat → Nat → Int32) (gl : Nat → Nat → Int64) (gr : Nat → Nat → Value) (ar0 : Nat) (ar1 : Int32) : Int64 → (Nat → Nat → Int32) → (Nat → Nat → Int64) → (Nat → Nat → Value) → Prop := fun (v : Int64) (gi2 : Nat → Nat → Int32) (gl2 : Nat → Nat → Int64) (gr2 : Nat → Nat → Value) => ∀ D : s_D, t_VL gr ar0 → t_CV gi gl ar0 D → v = s_hd D ar1.toInt
theorem c_d_heardOf {X : x_Ext} {d : Nat} {sh : List (Nat ⊕ (Nat × Nat))} {gi : Nat → Nat → Int32} {gl : Nat → Nat → Int64} {gr : Nat → Nat → Value} (hI : t_I sh gi gr) (ar0 : Nat) (p_a0 : t_Rv sh gr ar0) (ar1 : Int32) : x_Me X (d + 2) n_X5_heardOf [.ref ar0, .int ar1] (sh, gi, gl, gr) (t_PL wl_d_heardOf sh gi gl gr (Q_d_heardOf gi gl gr ar0 ar1)) := by
  have hX : t_X wl_d_heardOf sh gi gl gr gi gl gr := t_X.rf
  refine me_i f_X5_heardOf p_a0.1 rfl rfl rfl ?_
  refine ev_loc f_X5_heardOf (nx := 1) rfl rfl rfl rfl ?_
  refine ev_if f_X5_heardOf (t1 := 28) (t2 := 4) rfl rfl rfl (fun h1 => ?_) (fun h1 => ?_)
  · have u2 : ar1.toInt ≤ (-1) := t_ltu h1 (by decide : (0:Int32).toInt ≤ (0:Int)) rfl
    refine ev_lc f_X5_heardOf (nx := 29) (v := 0) rfl (by decide) rfl ?_
    exact ev_ret f_X5_heardOf rfl rfl rfl ⟨_, _, _, rfl, hI, hX, ⟨_, rfl, (show ∀ D : s_D, t_VL gr ar0 → t_CV gi gl ar0 D → (0 : Int64) = s_hd D ar1.toInt from (by
                                                            intro D hl hc
                                                            have hm := hc.1.1
                                                            exact (s_hd_o (fun hh => by omega)).symm))⟩⟩
  · have l3 : 0 ≤ ar1.toInt := t_lel (t_nlt h1) (by decide : (0:Int) ≤ (0:Int32).toInt)
    refine ev_loc f_X5_heardOf (nx := 5) rfl rfl rfl rfl ?_
    refine ev_loc f_X5_heardOf (nx := 6) rfl rfl rfl rfl ?_
    refine ev_getI f_X5_heardOf (nx := 9) rfl p_a0.1 rfl rfl rfl ?_
    obtain ⟨l4, u4⟩ := hI.b p_a0.1 (t_bdK rfl : t_bd 4 0 = some (0, 6))
    refine ev_if f_X5_heardOf (t1 := 28) (t2 := 12) rfl rfl rfl (fun h5 => ?_) (fun h5 => ?_)
    · have r6 : (gi ar0 0).toInt ≤ ar1.toInt := Int32.le_iff_toInt_le.mp h5
      refine ev_lc f_X5_heardOf (nx := 29) (v := 0) rfl (by decide) rfl ?_
      exact ev_ret f_X5_heardOf rfl rfl rfl ⟨_, _, _, rfl, hI, hX, ⟨_, rfl, (show ∀ D : s_D, t_VL gr ar0 → t_CV gi gl ar0 D → (0 : Int64) = s_hd D ar1.toInt from (by
                                                            intro D hl hc
                                                            have hm := hc.1.1
                                                            exact (s_hd_o (fun hh => by omega)).symm))⟩⟩
    · have r7 : ar1.toInt < (gi ar0 0).toInt := Int32.lt_iff_toInt_lt.mp (t_nle h5)
      have u8 : ar1.toInt ≤ 5 := t_ltu (t_nle h5) u4 rfl
      have l9 : 1 ≤ (gi ar0 0).toInt := t_ltl (t_nle h5) l3 rfl
      refine ev_loc f_X5_heardOf (nx := 13) rfl rfl rfl rfl ?_
      obtain ⟨a10, e10, s10, o10⟩ := p_a0.2.2.1
      refine ev_getR f_X5_heardOf (nx := 16) rfl p_a0.1 rfl rfl e10 rfl rfl ?_
      refine ev_loc f_X5_heardOf (nx := 17) rfl rfl rfl rfl ?_
      refine ev_laldT f_X5_heardOf (nx := 18) rfl s10 l3 (by decide) u8 (by decide) rfl (fun w11 e11 => ?_)
      refine ev_loc f_X5_heardOf (nx := 19) rfl rfl rfl rfl ?_
      refine ev_getI f_X5_heardOf (nx := 22) rfl p_a0.1 rfl rfl rfl ?_
      refine ev_inS2 f_X5_heardOf (nx := 25) (lo2 := [(0, .long w11), (2, .int (gi ar0 6))]) rfl rfl rfl rfl f_X5_withEcho rfl rfl rfl rfl ?_
      refine ev_loc f_X5_withEcho (nx := 1) rfl rfl rfl rfl ?_
      refine ev_loc f_X5_withEcho (nx := 2) rfl rfl rfl rfl ?_
      refine ev_loc f_X5_withEcho (nx := 3) rfl rfl rfl rfl ?_
      refine ev_anyLE f_X5_withEcho (nx := 4) rfl rfl rfl rfl (fun z12 e12 => ?_)
      refine ev_anyLE f_X5_withEcho (nx := 5) rfl rfl rfl rfl (fun z13 e13 => ?_)
      refine ev_retK1 f_X5_withEcho rfl rfl rfl ?_
      refine ev_jmp f_X5_heardOf (nx := 29) rfl rfl rfl ?_
      exact ev_ret f_X5_heardOf rfl rfl rfl ⟨_, _, _, rfl, hI, hX, ⟨_, rfl, (show ∀ D : s_D, t_VL gr ar0 → t_CV gi gl ar0 D → z13 = s_hd D ar1.toInt from (by
                                                            intro D hl hc
                                                            have hb0 : a10 = (ar0 + 2) := (Value.ref.inj ((hl.1.2.1).symm.trans e10)).symm
                                                            subst hb0
                                                            have hm := hc.1.1
                                                            have ka := t_clamp (i := ar1) (by omega)
                                                            rw [s_hd_i (by omega) (by omega), show ar1.toInt.toNat = ar1.toNatClampNeg from (by omega)]
                                                            have hw : w11 = s_so D ar1.toNatClampNeg := by rw [e11]; exact s_so_h (hc.1.2 ar1.toNatClampNeg (by omega))
                                                            rw [← hw]
                                                            exact s_ec_e e12 e13 hc.2.1.2.2.2))⟩⟩
noncomputable def wl_d_sound : List (Nat × Nat) := [(0, 0)]
noncomputable def Q_d_sound (gi : Nat → Nat → Int32) (gl : Nat → Nat → Int64) (gr : Nat → Nat → Value) (ar1 : Int32) : Int64 → (Nat → Nat → Int32) → (Nat → Nat → Int64) → (Nat → Nat → Value) → Prop := fun (v : Int64) (gi2 : Nat → Nat → Int32) (gl2 : Nat → Nat → Int64) (gr2 : Nat → Nat → Value) => ∀ (u : Nat) (D : s_D), gr 0 6 = .ref u → t_VL gr u → t_CV gi gl u D → t_Cb D → ((0 ≤ ar1.toInt ∧ ar1.toInt < D 0) → v = s_so D ar1.toNatClampNeg) ∧ (¬ (0 ≤ ar1.toInt ∧ ar1.toInt < D 0) → v.toInt = -1)
theorem c_d_sound {X : x_Ext} {d : Nat} {sh : List (Nat ⊕ (Nat × Nat))} {gi : Nat → Nat → Int32} {gl : Nat → Nat → Int64} {gr : Nat → Nat → Value} (hI : t_I sh gi gr) (ar1 : Int32) : x_Me X (d + 2) n_X11_sound [.ref 0, .int ar1] (sh, gi, gl, gr) (t_PL wl_d_sound sh gi gl gr (Q_d_sound gi gl gr ar1)) := by
  have hX : t_X wl_d_sound sh gi gl gr gi gl gr := t_X.rf
  refine me_i f_X11_sound (hI.wf.s rfl) rfl rfl rfl ?_
  refine ev_loc f_X11_sound (nx := 1) rfl rfl rfl rfl ?_
  refine ev_loc f_X11_sound (nx := 2) rfl rfl rfl rfl ?_
  refine ev_inV2 f_X11_sound (nx := 5) (lo2 := [(0, .ref 0), (1, .int ar1)]) rfl rfl rfl rfl f_X11_isPort (hI.wf.s rfl) rfl rfl rfl rfl rfl ?_
  refine ev_loc f_X11_isPort (nx := 1) rfl rfl rfl rfl ?_
  refine ev_if f_X11_isPort (t1 := 19) (t2 := 4) rfl rfl rfl (fun h1 => ?_) (fun h1 => ?_)
  · have u2 : ar1.toInt ≤ (-1) := t_ltu h1 (by decide : (0:Int32).toInt ≤ (0:Int)) rfl
    refine ev_ic f_X11_isPort (nx := 20) (v := 0) rfl (by decide) rfl ?_
    refine ev_retK1 f_X11_isPort rfl rfl rfl ?_
    refine ev_t f_X11_sound (t1 := 24) (t2 := 8) rfl rfl rfl (by decide) ?_
    refine ev_loc f_X11_sound (nx := 25) rfl rfl rfl rfl ?_
    refine ev_ic f_X11_sound (nx := 26) (v := 1) rfl (by decide) rfl ?_
    refine ev_inV2 f_X11_sound (nx := 29) (lo2 := [(0, .ref 0), (1, .int 1)]) rfl rfl rfl rfl f_X11_refuse (hI.wf.s rfl) rfl rfl rfl rfl rfl ?_
    refine ev_loc f_X11_refuse (nx := 1) rfl rfl rfl rfl ?_
    refine ev_loc f_X11_refuse (nx := 2) rfl rfl rfl rfl ?_
    refine ev_putIT f_X11_refuse (nx := 5) rfl (hI.wf.s rfl) rfl rfl rfl (hI.put0 (hI.wf.s rfl) rfl rfl) (hX.upI rfl) (fun g3 e3 hI hX => ?_)
    refine ev_ic f_X11_refuse (nx := 6) (v := -1) rfl (by decide) rfl ?_
    refine ev_retK1 f_X11_refuse rfl rfl rfl ?_
    refine ev_aluvL f_X11_sound (nx := 30) (w := -1) rfl rfl rfl (by decide) rfl ?_
    exact ev_ret f_X11_sound rfl rfl rfl ⟨_, _, _, rfl, hI, hX, ⟨_, rfl, (show ∀ (u : Nat) (D : s_D), gr 0 6 = .ref u → t_VL gr u → t_CV gi gl u D → t_Cb D → ((0 ≤ ar1.toInt ∧ ar1.toInt < D 0) → ((-1) : Int64) = s_so D ar1.toNatClampNeg) ∧ (¬ (0 ≤ ar1.toInt ∧ ar1.toInt < D 0) → ((-1) : Int64).toInt = -1) from (by
                                                            intro u D hu hl hc hb
                                                            have hm := hc.1.1
                                                            exact ⟨fun h => absurd h (by omega), fun _ => (by decide)⟩))⟩⟩
  · have l4 : 0 ≤ ar1.toInt := t_lel (t_nlt h1) (by decide : (0:Int) ≤ (0:Int32).toInt)
    refine ev_loc f_X11_isPort (nx := 5) rfl rfl rfl rfl ?_
    refine ev_loc f_X11_isPort (nx := 6) rfl rfl rfl rfl ?_
    obtain ⟨a5, e5, p5⟩ := hI.2.2.2.1.1
    refine ev_getR f_X11_isPort (nx := 9) rfl (hI.wf.s rfl) rfl rfl e5 rfl rfl ?_
    refine ev_getI f_X11_isPort (nx := 12) rfl p5.1 rfl rfl rfl ?_
    obtain ⟨l6, u6⟩ := hI.b p5.1 (t_bdK rfl : t_bd 4 0 = some (0, 6))
    refine ev_if f_X11_isPort (t1 := 19) (t2 := 15) rfl rfl rfl (fun h7 => ?_) (fun h7 => ?_)
    · have r8 : (gi a5 0).toInt ≤ ar1.toInt := Int32.le_iff_toInt_le.mp h7
      refine ev_ic f_X11_isPort (nx := 20) (v := 0) rfl (by decide) rfl ?_
      refine ev_retK1 f_X11_isPort rfl rfl rfl ?_
      refine ev_t f_X11_sound (t1 := 24) (t2 := 8) rfl rfl rfl (by decide) ?_
      refine ev_loc f_X11_sound (nx := 25) rfl rfl rfl rfl ?_
      refine ev_ic f_X11_sound (nx := 26) (v := 1) rfl (by decide) rfl ?_
      refine ev_inV2 f_X11_sound (nx := 29) (lo2 := [(0, .ref 0), (1, .int 1)]) rfl rfl rfl rfl f_X11_refuse (hI.wf.s rfl) rfl rfl rfl rfl rfl ?_
      refine ev_loc f_X11_refuse (nx := 1) rfl rfl rfl rfl ?_
      refine ev_loc f_X11_refuse (nx := 2) rfl rfl rfl rfl ?_
      refine ev_putIT f_X11_refuse (nx := 5) rfl (hI.wf.s rfl) rfl rfl rfl (hI.put0 (hI.wf.s rfl) rfl rfl) (hX.upI rfl) (fun g9 e9 hI hX => ?_)
      refine ev_ic f_X11_refuse (nx := 6) (v := -1) rfl (by decide) rfl ?_
      refine ev_retK1 f_X11_refuse rfl rfl rfl ?_
      refine ev_aluvL f_X11_sound (nx := 30) (w := -1) rfl rfl rfl (by decide) rfl ?_
      exact ev_ret f_X11_sound rfl rfl rfl ⟨_, _, _, rfl, hI, hX, ⟨_, rfl, (show ∀ (u : Nat) (D : s_D), gr 0 6 = .ref u → t_VL gr u → t_CV gi gl u D → t_Cb D → ((0 ≤ ar1.toInt ∧ ar1.toInt < D 0) → ((-1) : Int64) = s_so D ar1.toNatClampNeg) ∧ (¬ (0 ≤ ar1.toInt ∧ ar1.toInt < D 0) → ((-1) : Int64).toInt = -1) from (by
                                                            intro u D hu hl hc hb
                                                            have ha : a5 = u := Value.ref.inj (e5.symm.trans hu)
                                                            subst ha
                                                            have hm := hc.1.1
                                                            exact ⟨fun h => absurd h (by omega), fun _ => (by decide)⟩))⟩⟩
    · have r10 : ar1.toInt < (gi a5 0).toInt := Int32.lt_iff_toInt_lt.mp (t_nle h7)
      have u11 : ar1.toInt ≤ 5 := t_ltu (t_nle h7) u6 rfl
      have l12 : 1 ≤ (gi a5 0).toInt := t_ltl (t_nle h7) l4 rfl
      refine ev_ic f_X11_isPort (nx := 16) (v := 1) rfl (by decide) rfl ?_
      refine ev_jmp f_X11_isPort (nx := 20) rfl rfl rfl ?_
      refine ev_retK1 f_X11_isPort rfl rfl rfl ?_
      refine ev_f f_X11_sound (t1 := 24) (t2 := 8) rfl rfl rfl (by decide) ?_
      refine ev_loc f_X11_sound (nx := 9) rfl rfl rfl rfl ?_
      refine ev_loc f_X11_sound (nx := 10) rfl rfl rfl rfl ?_
      refine ev_getR f_X11_sound (nx := 13) (v := .ref a5) rfl (hI.wf.s rfl) rfl rfl e5 rfl rfl ?_
      obtain ⟨a13, e13, s13, o13⟩ := p5.2.2.1
      refine ev_getR f_X11_sound (nx := 16) rfl p5.1 rfl rfl e13 rfl rfl ?_
      refine ev_loc f_X11_sound (nx := 17) rfl rfl rfl rfl ?_
      refine ev_laldT f_X11_sound (nx := 18) rfl s13 l4 (by decide) u11 (by decide) rfl (fun w14 e14 => ?_)
      refine ev_inV2 f_X11_sound (nx := 21) (lo2 := [(0, .ref 0), (1, .long w14)]) rfl rfl rfl rfl f_X11_answerLong (hI.wf.s rfl) rfl rfl rfl rfl rfl ?_
      refine ev_loc f_X11_answerLong (nx := 1) rfl rfl rfl rfl ?_
      refine ev_ic f_X11_answerLong (nx := 2) (v := 0) rfl (by decide) rfl ?_
      refine ev_putIT f_X11_answerLong (nx := 5) rfl (hI.wf.s rfl) rfl rfl rfl (hI.put0 (hI.wf.s rfl) rfl rfl) (hX.upI rfl) (fun g15 e15 hI hX => ?_)
      refine ev_loc f_X11_answerLong (nx := 6) rfl rfl rfl rfl ?_
      refine ev_retK1 f_X11_answerLong rfl rfl rfl ?_
      refine ev_jmp f_X11_sound (nx := 30) rfl rfl rfl ?_
      exact ev_ret f_X11_sound rfl rfl rfl ⟨_, _, _, rfl, hI, hX, ⟨_, rfl, (show ∀ (u : Nat) (D : s_D), gr 0 6 = .ref u → t_VL gr u → t_CV gi gl u D → t_Cb D → ((0 ≤ ar1.toInt ∧ ar1.toInt < D 0) → w14 = s_so D ar1.toNatClampNeg) ∧ (¬ (0 ≤ ar1.toInt ∧ ar1.toInt < D 0) → w14.toInt = -1) from (by
                                                            intro u D hu hl hc hb
                                                            have ha : a5 = u := Value.ref.inj (e5.symm.trans hu)
                                                            subst ha
                                                            have hb1 : (a5 + 2) = a13 := Value.ref.inj ((hl.1.2.1).symm.trans e13)
                                                            subst hb1
                                                            have hm := hc.1.1
                                                            have ka := t_clamp (i := ar1) (by omega)
                                                            refine ⟨fun _ => ?_, fun h => absurd (show _ from ⟨by omega, by omega⟩) h⟩
                                                            rw [e14]; exact s_so_h (hc.1.2 ar1.toNatClampNeg (by omega))))⟩⟩
noncomputable def wl_d_heard : List (Nat × Nat) := [(0, 0)]
noncomputable def Q_d_heard (gi : Nat → Nat → Int32) (gl : Nat → Nat → Int64) (gr : Nat → Nat → Value) (ar1 : Int32) : Int64 → (Nat → Nat → Int32) → (Nat → Nat → Int64) → (Nat → Nat → Value) → Prop := fun (v : Int64) (gi2 : Nat → Nat → Int32) (gl2 : Nat → Nat → Int64) (gr2 : Nat → Nat → Value) => ∀ (u : Nat) (D : s_D), gr 0 6 = .ref u → t_VL gr u → t_CV gi gl u D → t_Cb D → ((0 ≤ ar1.toInt ∧ ar1.toInt < D 0) → v = s_hd D ar1.toInt) ∧ (¬ (0 ≤ ar1.toInt ∧ ar1.toInt < D 0) → v.toInt = -1)
theorem c_d_heard {X : x_Ext} {d : Nat} {sh : List (Nat ⊕ (Nat × Nat))} {gi : Nat → Nat → Int32} {gl : Nat → Nat → Int64} {gr : Nat → Nat → Value} (hI : t_I sh gi gr) (ar1 : Int32) : x_Me X (d + 3) n_X11_heard [.ref 0, .int ar1] (sh, gi, gl, gr) (t_PL wl_d_heard sh gi gl gr (Q_d_heard gi gl gr ar1)) := by
  have hX : t_X wl_d_heard sh gi gl gr gi gl gr := t_X.rf
  refine me_i f_X11_heard (hI.wf.s rfl) rfl rfl rfl ?_
  refine ev_loc f_X11_heard (nx := 1) rfl rfl rfl rfl ?_
  refine ev_loc f_X11_heard (nx := 2) rfl rfl rfl rfl ?_
  refine ev_inV2 f_X11_heard (nx := 5) (lo2 := [(0, .ref 0), (1, .int ar1)]) rfl rfl rfl rfl f_X11_isPort (hI.wf.s rfl) rfl rfl rfl rfl rfl ?_
  refine ev_loc f_X11_isPort (nx := 1) rfl rfl rfl rfl ?_
  refine ev_if f_X11_isPort (t1 := 19) (t2 := 4) rfl rfl rfl (fun h1 => ?_) (fun h1 => ?_)
  · have u2 : ar1.toInt ≤ (-1) := t_ltu h1 (by decide : (0:Int32).toInt ≤ (0:Int)) rfl
    refine ev_ic f_X11_isPort (nx := 20) (v := 0) rfl (by decide) rfl ?_
    refine ev_retK1 f_X11_isPort rfl rfl rfl ?_
    refine ev_t f_X11_heard (t1 := 23) (t2 := 8) rfl rfl rfl (by decide) ?_
    refine ev_loc f_X11_heard (nx := 24) rfl rfl rfl rfl ?_
    refine ev_ic f_X11_heard (nx := 25) (v := 1) rfl (by decide) rfl ?_
    refine ev_inV2 f_X11_heard (nx := 28) (lo2 := [(0, .ref 0), (1, .int 1)]) rfl rfl rfl rfl f_X11_refuse (hI.wf.s rfl) rfl rfl rfl rfl rfl ?_
    refine ev_loc f_X11_refuse (nx := 1) rfl rfl rfl rfl ?_
    refine ev_loc f_X11_refuse (nx := 2) rfl rfl rfl rfl ?_
    refine ev_putIT f_X11_refuse (nx := 5) rfl (hI.wf.s rfl) rfl rfl rfl (hI.put0 (hI.wf.s rfl) rfl rfl) (hX.upI rfl) (fun g3 e3 hI hX => ?_)
    refine ev_ic f_X11_refuse (nx := 6) (v := -1) rfl (by decide) rfl ?_
    refine ev_retK1 f_X11_refuse rfl rfl rfl ?_
    refine ev_aluvL f_X11_heard (nx := 29) (w := -1) rfl rfl rfl (by decide) rfl ?_
    exact ev_ret f_X11_heard rfl rfl rfl ⟨_, _, _, rfl, hI, hX, ⟨_, rfl, (show ∀ (u : Nat) (D : s_D), gr 0 6 = .ref u → t_VL gr u → t_CV gi gl u D → t_Cb D → ((0 ≤ ar1.toInt ∧ ar1.toInt < D 0) → ((-1) : Int64) = s_hd D ar1.toInt) ∧ (¬ (0 ≤ ar1.toInt ∧ ar1.toInt < D 0) → ((-1) : Int64).toInt = -1) from (by
                                                            intro u D hu hl hc hb
                                                            have hm := hc.1.1
                                                            exact ⟨fun h => absurd h (by omega), fun _ => (by decide)⟩))⟩⟩
  · have l4 : 0 ≤ ar1.toInt := t_lel (t_nlt h1) (by decide : (0:Int) ≤ (0:Int32).toInt)
    refine ev_loc f_X11_isPort (nx := 5) rfl rfl rfl rfl ?_
    refine ev_loc f_X11_isPort (nx := 6) rfl rfl rfl rfl ?_
    obtain ⟨a5, e5, p5⟩ := hI.2.2.2.1.1
    refine ev_getR f_X11_isPort (nx := 9) rfl (hI.wf.s rfl) rfl rfl e5 rfl rfl ?_
    refine ev_getI f_X11_isPort (nx := 12) rfl p5.1 rfl rfl rfl ?_
    obtain ⟨l6, u6⟩ := hI.b p5.1 (t_bdK rfl : t_bd 4 0 = some (0, 6))
    refine ev_if f_X11_isPort (t1 := 19) (t2 := 15) rfl rfl rfl (fun h7 => ?_) (fun h7 => ?_)
    · have r8 : (gi a5 0).toInt ≤ ar1.toInt := Int32.le_iff_toInt_le.mp h7
      refine ev_ic f_X11_isPort (nx := 20) (v := 0) rfl (by decide) rfl ?_
      refine ev_retK1 f_X11_isPort rfl rfl rfl ?_
      refine ev_t f_X11_heard (t1 := 23) (t2 := 8) rfl rfl rfl (by decide) ?_
      refine ev_loc f_X11_heard (nx := 24) rfl rfl rfl rfl ?_
      refine ev_ic f_X11_heard (nx := 25) (v := 1) rfl (by decide) rfl ?_
      refine ev_inV2 f_X11_heard (nx := 28) (lo2 := [(0, .ref 0), (1, .int 1)]) rfl rfl rfl rfl f_X11_refuse (hI.wf.s rfl) rfl rfl rfl rfl rfl ?_
      refine ev_loc f_X11_refuse (nx := 1) rfl rfl rfl rfl ?_
      refine ev_loc f_X11_refuse (nx := 2) rfl rfl rfl rfl ?_
      refine ev_putIT f_X11_refuse (nx := 5) rfl (hI.wf.s rfl) rfl rfl rfl (hI.put0 (hI.wf.s rfl) rfl rfl) (hX.upI rfl) (fun g9 e9 hI hX => ?_)
      refine ev_ic f_X11_refuse (nx := 6) (v := -1) rfl (by decide) rfl ?_
      refine ev_retK1 f_X11_refuse rfl rfl rfl ?_
      refine ev_aluvL f_X11_heard (nx := 29) (w := -1) rfl rfl rfl (by decide) rfl ?_
      exact ev_ret f_X11_heard rfl rfl rfl ⟨_, _, _, rfl, hI, hX, ⟨_, rfl, (show ∀ (u : Nat) (D : s_D), gr 0 6 = .ref u → t_VL gr u → t_CV gi gl u D → t_Cb D → ((0 ≤ ar1.toInt ∧ ar1.toInt < D 0) → ((-1) : Int64) = s_hd D ar1.toInt) ∧ (¬ (0 ≤ ar1.toInt ∧ ar1.toInt < D 0) → ((-1) : Int64).toInt = -1) from (by
                                                            intro u D hu hl hc hb
                                                            have ha : a5 = u := Value.ref.inj (e5.symm.trans hu)
                                                            subst ha
                                                            have hm := hc.1.1
                                                            exact ⟨fun h => absurd h (by omega), fun _ => (by decide)⟩))⟩⟩
    · have r10 : ar1.toInt < (gi a5 0).toInt := Int32.lt_iff_toInt_lt.mp (t_nle h7)
      have u11 : ar1.toInt ≤ 5 := t_ltu (t_nle h7) u6 rfl
      have l12 : 1 ≤ (gi a5 0).toInt := t_ltl (t_nle h7) l4 rfl
      refine ev_ic f_X11_isPort (nx := 16) (v := 1) rfl (by decide) rfl ?_
      refine ev_jmp f_X11_isPort (nx := 20) rfl rfl rfl ?_
      refine ev_retK1 f_X11_isPort rfl rfl rfl ?_
      refine ev_f f_X11_heard (t1 := 23) (t2 := 8) rfl rfl rfl (by decide) ?_
      refine ev_loc f_X11_heard (nx := 9) rfl rfl rfl rfl ?_
      refine ev_loc f_X11_heard (nx := 10) rfl rfl rfl rfl ?_
      refine ev_getR f_X11_heard (nx := 13) (v := .ref a5) rfl (hI.wf.s rfl) rfl rfl e5 rfl rfl ?_
      refine ev_loc f_X11_heard (nx := 14) rfl rfl rfl rfl ?_
      refine ev_qL0 f_X11_heard (nx := 17) (r := [.ref 0]) rfl rfl rfl rfl rfl rfl rfl (c_d_heardOf hI (a5) p5 (ar1)) rfl (fun w13 q13 => ?_)
      have q13 : ∀ D : s_D, t_VL gr a5 → t_CV gi gl a5 D → w13 = s_hd D ar1.toInt := q13
      refine ev_inV2 f_X11_heard (nx := 20) (lo2 := [(0, .ref 0), (1, .long w13)]) rfl rfl rfl rfl f_X11_answerLong (hI.wf.s rfl) rfl rfl rfl rfl rfl ?_
      refine ev_loc f_X11_answerLong (nx := 1) rfl rfl rfl rfl ?_
      refine ev_ic f_X11_answerLong (nx := 2) (v := 0) rfl (by decide) rfl ?_
      refine ev_putIT f_X11_answerLong (nx := 5) rfl (hI.wf.s rfl) rfl rfl rfl (hI.put0 (hI.wf.s rfl) rfl rfl) (hX.upI rfl) (fun g14 e14 hI hX => ?_)
      refine ev_loc f_X11_answerLong (nx := 6) rfl rfl rfl rfl ?_
      refine ev_retK1 f_X11_answerLong rfl rfl rfl ?_
      refine ev_jmp f_X11_heard (nx := 29) rfl rfl rfl ?_
      exact ev_ret f_X11_heard rfl rfl rfl ⟨_, _, _, rfl, hI, hX, ⟨_, rfl, (show ∀ (u : Nat) (D : s_D), gr 0 6 = .ref u → t_VL gr u → t_CV gi gl u D → t_Cb D → ((0 ≤ ar1.toInt ∧ ar1.toInt < D 0) → w13 = s_hd D ar1.toInt) ∧ (¬ (0 ≤ ar1.toInt ∧ ar1.toInt < D 0) → w13.toInt = -1) from (by
                                                            intro u D hu hl hc hb
                                                            have ha : a5 = u := Value.ref.inj (e5.symm.trans hu)
                                                            subst ha
                                                            have hm := hc.1.1
                                                            refine ⟨fun _ => ?_, fun h => absurd (show _ from ⟨by omega, by omega⟩) h⟩
                                                            exact q13 D hl hc))⟩⟩
noncomputable def wl_d_together : List (Nat × Nat) := [(0, 0)]
noncomputable def Q_d_together (gi : Nat → Nat → Int32) (gl : Nat → Nat → Int64) (gr : Nat → Nat → Value) (ar1 : Int32) (ar2 : Int32) (ar3 : Int32) : Int64 → (Nat → Nat → Int32) → (Nat → Nat → Int64) → (Nat → Nat → Value) → Prop := fun (v : Int64) (gi2 : Nat → Nat → Int32) (gl2 : Nat → Nat → Int64) (gr2 : Nat → Nat → Value) => ∀ (u : Nat) (D : s_D), gr 0 6 = .ref u → t_VL gr u → t_CV gi gl u D → t_Cb D → ((0 ≤ ar1.toInt ∧ ar1.toInt < D 0 ∧ 0 ≤ ar2.toInt ∧ ar2.toInt < D 0 ∧ 0 ≤ ar3.toInt ∧ ar3.toInt ≤ 12) → v = s_hd D ar1.toInt ||| (s_hd D ar2.toInt <<< (ar3.toInt64 &&& 63))) ∧ (¬ (0 ≤ ar1.toInt ∧ ar1.toInt < D 0 ∧ 0 ≤ ar2.toInt ∧ ar2.toInt < D 0 ∧ 0 ≤ ar3.toInt ∧ ar3.toInt ≤ 12) → v.toInt = -1)
theorem c_d_together {X : x_Ext} {d : Nat} {sh : List (Nat ⊕ (Nat × Nat))} {gi : Nat → Nat → Int32} {gl : Nat → Nat → Int64} {gr : Nat → Nat → Value} (hI : t_I sh gi gr) (ar1 : Int32) (ar2 : Int32) (ar3 : Int32) : x_Me X (d + 4) n_X11_together [.ref 0, .int ar1, .int ar2, .int ar3] (sh, gi, gl, gr) (t_PL wl_d_together sh gi gl gr (Q_d_together gi gl gr ar1 ar2 ar3)) := by
  have hX : t_X wl_d_together sh gi gl gr gi gl gr := t_X.rf
  refine me_i f_X11_together (hI.wf.s rfl) rfl rfl rfl ?_
  refine ev_loc f_X11_together (nx := 1) rfl rfl rfl rfl ?_
  refine ev_loc f_X11_together (nx := 2) rfl rfl rfl rfl ?_
  refine ev_inV2 f_X11_together (nx := 5) (lo2 := [(0, .ref 0), (1, .int ar1)]) rfl rfl rfl rfl f_X11_isPort (hI.wf.s rfl) rfl rfl rfl rfl rfl ?_
  refine ev_loc f_X11_isPort (nx := 1) rfl rfl rfl rfl ?_
  refine ev_if f_X11_isPort (t1 := 19) (t2 := 4) rfl rfl rfl (fun h1 => ?_) (fun h1 => ?_)
  · have u2 : ar1.toInt ≤ (-1) := t_ltu h1 (by decide : (0:Int32).toInt ≤ (0:Int)) rfl
    refine ev_ic f_X11_isPort (nx := 20) (v := 0) rfl (by decide) rfl ?_
    refine ev_retK1 f_X11_isPort rfl rfl rfl ?_
    refine ev_t f_X11_together (t1 := 26) (t2 := 8) rfl rfl rfl (by decide) ?_
    refine ev_loc f_X11_together (nx := 27) rfl rfl rfl rfl ?_
    refine ev_ic f_X11_together (nx := 28) (v := 1) rfl (by decide) rfl ?_
    refine ev_inV2 f_X11_together (nx := 31) (lo2 := [(0, .ref 0), (1, .int 1)]) rfl rfl rfl rfl f_X11_refuse (hI.wf.s rfl) rfl rfl rfl rfl rfl ?_
    refine ev_loc f_X11_refuse (nx := 1) rfl rfl rfl rfl ?_
    refine ev_loc f_X11_refuse (nx := 2) rfl rfl rfl rfl ?_
    refine ev_putIT f_X11_refuse (nx := 5) rfl (hI.wf.s rfl) rfl rfl rfl (hI.put0 (hI.wf.s rfl) rfl rfl) (hX.upI rfl) (fun g3 e3 hI hX => ?_)
    refine ev_ic f_X11_refuse (nx := 6) (v := -1) rfl (by decide) rfl ?_
    refine ev_retK1 f_X11_refuse rfl rfl rfl ?_
    refine ev_aluvL f_X11_together (nx := 32) (w := -1) rfl rfl rfl (by decide) rfl ?_
    exact ev_ret f_X11_together rfl rfl rfl ⟨_, _, _, rfl, hI, hX, ⟨_, rfl, (show ∀ (u : Nat) (D : s_D), gr 0 6 = .ref u → t_VL gr u → t_CV gi gl u D → t_Cb D → ((0 ≤ ar1.toInt ∧ ar1.toInt < D 0 ∧ 0 ≤ ar2.toInt ∧ ar2.toInt < D 0 ∧ 0 ≤ ar3.toInt ∧ ar3.toInt ≤ 12) → ((-1) : Int64) = s_hd D ar1.toInt ||| (s_hd D ar2.toInt <<< (ar3.toInt64 &&& 63))) ∧ (¬ (0 ≤ ar1.toInt ∧ ar1.toInt < D 0 ∧ 0 ≤ ar2.toInt ∧ ar2.toInt < D 0 ∧ 0 ≤ ar3.toInt ∧ ar3.toInt ≤ 12) → ((-1) : Int64).toInt = -1) from (by
                                                            intro u D hu hl hc hb
                                                            have hm := hc.1.1
                                                            exact ⟨fun h => absurd h (by omega), fun _ => (by decide)⟩))⟩⟩
  · have l4 : 0 ≤ ar1.toInt := t_lel (t_nlt h1) (by decide : (0:Int) ≤ (0:Int32).toInt)
    refine ev_loc f_X11_isPort (nx := 5) rfl rfl rfl rfl ?_
    refine ev_loc f_X11_isPort (nx := 6) rfl rfl rfl rfl ?_
    obtain ⟨a5, e5, p5⟩ := hI.2.2.2.1.1
    refine ev_getR f_X11_isPort (nx := 9) rfl (hI.wf.s rfl) rfl rfl e5 rfl rfl ?_
    refine ev_getI f_X11_isPort (nx := 12) rfl p5.1 rfl rfl rfl ?_
    obtain ⟨l6, u6⟩ := hI.b p5.1 (t_bdK rfl : t_bd 4 0 = some (0, 6))
    refine ev_if f_X11_isPort (t1 := 19) (t2 := 15) rfl rfl rfl (fun h7 => ?_) (fun h7 => ?_)
    · have r8 : (gi a5 0).toInt ≤ ar1.toInt := Int32.le_iff_toInt_le.mp h7
      refine ev_ic f_X11_isPort (nx := 20) (v := 0) rfl (by decide) rfl ?_
      refine ev_retK1 f_X11_isPort rfl rfl rfl ?_
      refine ev_t f_X11_together (t1 := 26) (t2 := 8) rfl rfl rfl (by decide) ?_
      refine ev_loc f_X11_together (nx := 27) rfl rfl rfl rfl ?_
      refine ev_ic f_X11_together (nx := 28) (v := 1) rfl (by decide) rfl ?_
      refine ev_inV2 f_X11_together (nx := 31) (lo2 := [(0, .ref 0), (1, .int 1)]) rfl rfl rfl rfl f_X11_refuse (hI.wf.s rfl) rfl rfl rfl rfl rfl ?_
      refine ev_loc f_X11_refuse (nx := 1) rfl rfl rfl rfl ?_
      refine ev_loc f_X11_refuse (nx := 2) rfl rfl rfl rfl ?_
      refine ev_putIT f_X11_refuse (nx := 5) rfl (hI.wf.s rfl) rfl rfl rfl (hI.put0 (hI.wf.s rfl) rfl rfl) (hX.upI rfl) (fun g9 e9 hI hX => ?_)
      refine ev_ic f_X11_refuse (nx := 6) (v := -1) rfl (by decide) rfl ?_
      refine ev_retK1 f_X11_refuse rfl rfl rfl ?_
      refine ev_aluvL f_X11_together (nx := 32) (w := -1) rfl rfl rfl (by decide) rfl ?_
      exact ev_ret f_X11_together rfl rfl rfl ⟨_, _, _, rfl, hI, hX, ⟨_, rfl, (show ∀ (u : Nat) (D : s_D), gr 0 6 = .ref u → t_VL gr u → t_CV gi gl u D → t_Cb D → ((0 ≤ ar1.toInt ∧ ar1.toInt < D 0 ∧ 0 ≤ ar2.toInt ∧ ar2.toInt < D 0 ∧ 0 ≤ ar3.toInt ∧ ar3.toInt ≤ 12) → ((-1) : Int64) = s_hd D ar1.toInt ||| (s_hd D ar2.toInt <<< (ar3.toInt64 &&& 63))) ∧ (¬ (0 ≤ ar1.toInt ∧ ar1.toInt < D 0 ∧ 0 ≤ ar2.toInt ∧ ar2.toInt < D 0 ∧ 0 ≤ ar3.toInt ∧ ar3.toInt ≤ 12) → ((-1) : Int64).toInt = -1) from (by
                                                            intro u D hu hl hc hb
                                                            have ha : a5 = u := Value.ref.inj (e5.symm.trans hu)
                                                            subst ha
                                                            have hm := hc.1.1
                                                            exact ⟨fun h => absurd h (by omega), fun _ => (by decide)⟩))⟩⟩
    · have r10 : ar1.toInt < (gi a5 0).toInt := Int32.lt_iff_toInt_lt.mp (t_nle h7)
      have u11 : ar1.toInt ≤ 5 := t_ltu (t_nle h7) u6 rfl
      have l12 : 1 ≤ (gi a5 0).toInt := t_ltl (t_nle h7) l4 rfl
      refine ev_ic f_X11_isPort (nx := 16) (v := 1) rfl (by decide) rfl ?_
      refine ev_jmp f_X11_isPort (nx := 20) rfl rfl rfl ?_
      refine ev_retK1 f_X11_isPort rfl rfl rfl ?_
      refine ev_f f_X11_together (t1 := 26) (t2 := 8) rfl rfl rfl (by decide) ?_
      refine ev_loc f_X11_together (nx := 9) rfl rfl rfl rfl ?_
      refine ev_loc f_X11_together (nx := 10) rfl rfl rfl rfl ?_
      refine ev_inV2 f_X11_together (nx := 13) (lo2 := [(0, .ref 0), (1, .int ar2)]) rfl rfl rfl rfl f_X11_isPort (hI.wf.s rfl) rfl rfl rfl rfl rfl ?_
      refine ev_loc f_X11_isPort (nx := 1) rfl rfl rfl rfl ?_
      refine ev_if f_X11_isPort (t1 := 19) (t2 := 4) rfl rfl rfl (fun h13 => ?_) (fun h13 => ?_)
      · have u14 : ar2.toInt ≤ (-1) := t_ltu h13 (by decide : (0:Int32).toInt ≤ (0:Int)) rfl
        refine ev_ic f_X11_isPort (nx := 20) (v := 0) rfl (by decide) rfl ?_
        refine ev_retK1 f_X11_isPort rfl rfl rfl ?_
        refine ev_t f_X11_together (t1 := 26) (t2 := 16) rfl rfl rfl (by decide) ?_
        refine ev_loc f_X11_together (nx := 27) rfl rfl rfl rfl ?_
        refine ev_ic f_X11_together (nx := 28) (v := 1) rfl (by decide) rfl ?_
        refine ev_inV2 f_X11_together (nx := 31) (lo2 := [(0, .ref 0), (1, .int 1)]) rfl rfl rfl rfl f_X11_refuse (hI.wf.s rfl) rfl rfl rfl rfl rfl ?_
        refine ev_loc f_X11_refuse (nx := 1) rfl rfl rfl rfl ?_
        refine ev_loc f_X11_refuse (nx := 2) rfl rfl rfl rfl ?_
        refine ev_putIT f_X11_refuse (nx := 5) rfl (hI.wf.s rfl) rfl rfl rfl (hI.put0 (hI.wf.s rfl) rfl rfl) (hX.upI rfl) (fun g15 e15 hI hX => ?_)
        refine ev_ic f_X11_refuse (nx := 6) (v := -1) rfl (by decide) rfl ?_
        refine ev_retK1 f_X11_refuse rfl rfl rfl ?_
        refine ev_aluvL f_X11_together (nx := 32) (w := -1) rfl rfl rfl (by decide) rfl ?_
        exact ev_ret f_X11_together rfl rfl rfl ⟨_, _, _, rfl, hI, hX, ⟨_, rfl, (show ∀ (u : Nat) (D : s_D), gr 0 6 = .ref u → t_VL gr u → t_CV gi gl u D → t_Cb D → ((0 ≤ ar1.toInt ∧ ar1.toInt < D 0 ∧ 0 ≤ ar2.toInt ∧ ar2.toInt < D 0 ∧ 0 ≤ ar3.toInt ∧ ar3.toInt ≤ 12) → ((-1) : Int64) = s_hd D ar1.toInt ||| (s_hd D ar2.toInt <<< (ar3.toInt64 &&& 63))) ∧ (¬ (0 ≤ ar1.toInt ∧ ar1.toInt < D 0 ∧ 0 ≤ ar2.toInt ∧ ar2.toInt < D 0 ∧ 0 ≤ ar3.toInt ∧ ar3.toInt ≤ 12) → ((-1) : Int64).toInt = -1) from (by
                                                            intro u D hu hl hc hb
                                                            have ha : a5 = u := Value.ref.inj (e5.symm.trans hu)
                                                            subst ha
                                                            have hm := hc.1.1
                                                            exact ⟨fun h => absurd h (by omega), fun _ => (by decide)⟩))⟩⟩
      · have l16 : 0 ≤ ar2.toInt := t_lel (t_nlt h13) (by decide : (0:Int) ≤ (0:Int32).toInt)
        refine ev_loc f_X11_isPort (nx := 5) rfl rfl rfl rfl ?_
        refine ev_loc f_X11_isPort (nx := 6) rfl rfl rfl rfl ?_
        refine ev_getR f_X11_isPort (nx := 9) (v := .ref a5) rfl (hI.wf.s rfl) rfl rfl e5 rfl rfl ?_
        refine ev_gvI f_X11_isPort (nx := 12) (w := (gi a5 0)) rfl p5.1 rfl rfl rfl rfl ?_
        refine ev_if f_X11_isPort (t1 := 19) (t2 := 15) rfl rfl rfl (fun h17 => ?_) (fun h17 => ?_)
        · have r18 : (gi a5 0).toInt ≤ ar2.toInt := Int32.le_iff_toInt_le.mp h17
          have l19 : 1 ≤ ar2.toInt := t_lel h17 l12
          refine ev_ic f_X11_isPort (nx := 20) (v := 0) rfl (by decide) rfl ?_
          refine ev_retK1 f_X11_isPort rfl rfl rfl ?_
          refine ev_t f_X11_together (t1 := 26) (t2 := 16) rfl rfl rfl (by decide) ?_
          refine ev_loc f_X11_together (nx := 27) rfl rfl rfl rfl ?_
          refine ev_ic f_X11_together (nx := 28) (v := 1) rfl (by decide) rfl ?_
          refine ev_inV2 f_X11_together (nx := 31) (lo2 := [(0, .ref 0), (1, .int 1)]) rfl rfl rfl rfl f_X11_refuse (hI.wf.s rfl) rfl rfl rfl rfl rfl ?_
          refine ev_loc f_X11_refuse (nx := 1) rfl rfl rfl rfl ?_
          refine ev_loc f_X11_refuse (nx := 2) rfl rfl rfl rfl ?_
          refine ev_putIT f_X11_refuse (nx := 5) rfl (hI.wf.s rfl) rfl rfl rfl (hI.put0 (hI.wf.s rfl) rfl rfl) (hX.upI rfl) (fun g20 e20 hI hX => ?_)
          refine ev_ic f_X11_refuse (nx := 6) (v := -1) rfl (by decide) rfl ?_
          refine ev_retK1 f_X11_refuse rfl rfl rfl ?_
          refine ev_aluvL f_X11_together (nx := 32) (w := -1) rfl rfl rfl (by decide) rfl ?_
          exact ev_ret f_X11_together rfl rfl rfl ⟨_, _, _, rfl, hI, hX, ⟨_, rfl, (show ∀ (u : Nat) (D : s_D), gr 0 6 = .ref u → t_VL gr u → t_CV gi gl u D → t_Cb D → ((0 ≤ ar1.toInt ∧ ar1.toInt < D 0 ∧ 0 ≤ ar2.toInt ∧ ar2.toInt < D 0 ∧ 0 ≤ ar3.toInt ∧ ar3.toInt ≤ 12) → ((-1) : Int64) = s_hd D ar1.toInt ||| (s_hd D ar2.toInt <<< (ar3.toInt64 &&& 63))) ∧ (¬ (0 ≤ ar1.toInt ∧ ar1.toInt < D 0 ∧ 0 ≤ ar2.toInt ∧ ar2.toInt < D 0 ∧ 0 ≤ ar3.toInt ∧ ar3.toInt ≤ 12) → ((-1) : Int64).toInt = -1) from (by
                                                            intro u D hu hl hc hb
                                                            have ha : a5 = u := Value.ref.inj (e5.symm.trans hu)
                                                            subst ha
                                                            have hm := hc.1.1
                                                            exact ⟨fun h => absurd h (by omega), fun _ => (by decide)⟩))⟩⟩
        · have r21 : ar2.toInt < (gi a5 0).toInt := Int32.lt_iff_toInt_lt.mp (t_nle h17)
          have u22 : ar2.toInt ≤ 5 := t_ltu (t_nle h17) u6 rfl
          refine ev_ic f_X11_isPort (nx := 16) (v := 1) rfl (by decide) rfl ?_
          refine ev_jmp f_X11_isPort (nx := 20) rfl rfl rfl ?_
          refine ev_retK1 f_X11_isPort rfl rfl rfl ?_
          refine ev_f f_X11_together (t1 := 26) (t2 := 16) rfl rfl rfl (by decide) ?_
          refine ev_loc f_X11_together (nx := 17) rfl rfl rfl rfl ?_
          refine ev_if f_X11_together (t1 := 26) (t2 := 20) rfl rfl rfl (fun h23 => ?_) (fun h23 => ?_)
          · have u24 : ar3.toInt ≤ (-1) := t_ltu h23 (by decide : (0:Int32).toInt ≤ (0:Int)) rfl
            refine ev_loc f_X11_together (nx := 27) rfl rfl rfl rfl ?_
            refine ev_ic f_X11_together (nx := 28) (v := 1) rfl (by decide) rfl ?_
            refine ev_inV2 f_X11_together (nx := 31) (lo2 := [(0, .ref 0), (1, .int 1)]) rfl rfl rfl rfl f_X11_refuse (hI.wf.s rfl) rfl rfl rfl rfl rfl ?_
            refine ev_loc f_X11_refuse (nx := 1) rfl rfl rfl rfl ?_
            refine ev_loc f_X11_refuse (nx := 2) rfl rfl rfl rfl ?_
            refine ev_putIT f_X11_refuse (nx := 5) rfl (hI.wf.s rfl) rfl rfl rfl (hI.put0 (hI.wf.s rfl) rfl rfl) (hX.upI rfl) (fun g25 e25 hI hX => ?_)
            refine ev_ic f_X11_refuse (nx := 6) (v := -1) rfl (by decide) rfl ?_
            refine ev_retK1 f_X11_refuse rfl rfl rfl ?_
            refine ev_aluvL f_X11_together (nx := 32) (w := -1) rfl rfl rfl (by decide) rfl ?_
            exact ev_ret f_X11_together rfl rfl rfl ⟨_, _, _, rfl, hI, hX, ⟨_, rfl, (show ∀ (u : Nat) (D : s_D), gr 0 6 = .ref u → t_VL gr u → t_CV gi gl u D → t_Cb D → ((0 ≤ ar1.toInt ∧ ar1.toInt < D 0 ∧ 0 ≤ ar2.toInt ∧ ar2.toInt < D 0 ∧ 0 ≤ ar3.toInt ∧ ar3.toInt ≤ 12) → ((-1) : Int64) = s_hd D ar1.toInt ||| (s_hd D ar2.toInt <<< (ar3.toInt64 &&& 63))) ∧ (¬ (0 ≤ ar1.toInt ∧ ar1.toInt < D 0 ∧ 0 ≤ ar2.toInt ∧ ar2.toInt < D 0 ∧ 0 ≤ ar3.toInt ∧ ar3.toInt ≤ 12) → ((-1) : Int64).toInt = -1) from (by
                                                            intro u D hu hl hc hb
                                                            have ha : a5 = u := Value.ref.inj (e5.symm.trans hu)
                                                            subst ha
                                                            have hm := hc.1.1
                                                            exact ⟨fun h => absurd h (by omega), fun _ => (by decide)⟩))⟩⟩
          · have l26 : 0 ≤ ar3.toInt := t_lel (t_nlt h23) (by decide : (0:Int) ≤ (0:Int32).toInt)
            refine ev_loc f_X11_together (nx := 21) rfl rfl rfl rfl ?_
            refine ev_bp f_X11_together (nx := 23) (v := 12) rfl (by decide) rfl ?_
            refine ev_if f_X11_together (t1 := 33) (t2 := 26) rfl rfl rfl (fun h27 => ?_) (fun h27 => ?_)
            · have u28 : ar3.toInt ≤ 12 := t_leu h27 (by decide : (12:Int32).toInt ≤ (12:Int))
              refine ev_loc f_X11_together (nx := 34) rfl rfl rfl rfl ?_
              refine ev_loc f_X11_together (nx := 35) rfl rfl rfl rfl ?_
              refine ev_getR f_X11_together (nx := 38) (v := .ref a5) rfl (hI.wf.s rfl) rfl rfl e5 rfl rfl ?_
              refine ev_loc f_X11_together (nx := 39) rfl rfl rfl rfl ?_
              refine ev_loc f_X11_together (nx := 40) rfl rfl rfl rfl ?_
              refine ev_loc f_X11_together (nx := 41) rfl rfl rfl rfl ?_
              refine ev_inV4 f_X11_together (nx := 44) (lo2 := [(0, .ref a5), (1, .int ar1), (2, .int ar2), (3, .int ar3)]) rfl rfl rfl rfl f_X5_bothHeard p5.1 rfl rfl rfl rfl rfl ?_
              refine ev_loc f_X5_bothHeard (nx := 1) rfl rfl rfl rfl ?_
              refine ev_loc f_X5_bothHeard (nx := 2) rfl rfl rfl rfl ?_
              refine ev_qL0 f_X5_bothHeard (nx := 5) (r := []) rfl rfl rfl rfl rfl rfl rfl (c_d_heardOf hI (a5) p5 (ar1)) rfl (fun w29 q29 => ?_)
              have q29 : ∀ D : s_D, t_VL gr a5 → t_CV gi gl a5 D → w29 = s_hd D ar1.toInt := q29
              refine ev_loc f_X5_bothHeard (nx := 6) rfl rfl rfl rfl ?_
              refine ev_loc f_X5_bothHeard (nx := 7) rfl rfl rfl rfl ?_
              refine ev_qL0 f_X5_bothHeard (nx := 10) (r := [.long w29]) rfl rfl rfl rfl rfl rfl rfl (c_d_heardOf hI (a5) p5 (ar2)) rfl (fun w30 q30 => ?_)
              have q30 : ∀ D : s_D, t_VL gr a5 → t_CV gi gl a5 D → w30 = s_hd D ar2.toInt := q30
              refine ev_loc f_X5_bothHeard (nx := 11) rfl rfl rfl rfl ?_
              refine ev_anyLE f_X5_bothHeard (nx := 12) rfl rfl rfl rfl (fun z31 e31 => ?_)
              refine ev_anyLE f_X5_bothHeard (nx := 13) rfl rfl rfl rfl (fun z32 e32 => ?_)
              refine ev_retK1 f_X5_bothHeard rfl rfl rfl ?_
              refine ev_inV2 f_X11_together (nx := 47) (lo2 := [(0, .ref 0), (1, .long z32)]) rfl rfl rfl rfl f_X11_answerLong (hI.wf.s rfl) rfl rfl rfl rfl rfl ?_
              refine ev_loc f_X11_answerLong (nx := 1) rfl rfl rfl rfl ?_
              refine ev_ic f_X11_answerLong (nx := 2) (v := 0) rfl (by decide) rfl ?_
              refine ev_putIT f_X11_answerLong (nx := 5) rfl (hI.wf.s rfl) rfl rfl rfl (hI.put0 (hI.wf.s rfl) rfl rfl) (hX.upI rfl) (fun g33 e33 hI hX => ?_)
              refine ev_loc f_X11_answerLong (nx := 6) rfl rfl rfl rfl ?_
              refine ev_retK1 f_X11_answerLong rfl rfl rfl ?_
              exact ev_ret f_X11_together rfl rfl rfl ⟨_, _, _, rfl, hI, hX, ⟨_, rfl, (show ∀ (u : Nat) (D : s_D), gr 0 6 = .ref u → t_VL gr u → t_CV gi gl u D → t_Cb D → ((0 ≤ ar1.toInt ∧ ar1.toInt < D 0 ∧ 0 ≤ ar2.toInt ∧ ar2.toInt < D 0 ∧ 0 ≤ ar3.toInt ∧ ar3.toInt ≤ 12) → z32 = s_hd D ar1.toInt ||| (s_hd D ar2.toInt <<< (ar3.toInt64 &&& 63))) ∧ (¬ (0 ≤ ar1.toInt ∧ ar1.toInt < D 0 ∧ 0 ≤ ar2.toInt ∧ ar2.toInt < D 0 ∧ 0 ≤ ar3.toInt ∧ ar3.toInt ≤ 12) → z32.toInt = -1) from (by
                                                            intro u D hu hl hc hb
                                                            have ha : a5 = u := Value.ref.inj (e5.symm.trans hu)
                                                            subst ha
                                                            have hm := hc.1.1
                                                            refine ⟨fun _ => ?_, fun h => absurd (show _ from ⟨by omega, by omega, by omega, by omega, by omega, by omega⟩) h⟩
                                                            rw [e32, e31, q29 D hl hc, q30 D hl hc]))⟩⟩
            · have l34 : 13 ≤ ar3.toInt := t_ltl (t_nle h27) (by decide : (12:Int) ≤ (12:Int32).toInt) rfl
              refine ev_loc f_X11_together (nx := 27) rfl rfl rfl rfl ?_
              refine ev_ic f_X11_together (nx := 28) (v := 1) rfl (by decide) rfl ?_
              refine ev_inV2 f_X11_together (nx := 31) (lo2 := [(0, .ref 0), (1, .int 1)]) rfl rfl rfl rfl f_X11_refuse (hI.wf.s rfl) rfl rfl rfl rfl rfl ?_
              refine ev_loc f_X11_refuse (nx := 1) rfl rfl rfl rfl ?_
              refine ev_loc f_X11_refuse (nx := 2) rfl rfl rfl rfl ?_
              refine ev_putIT f_X11_refuse (nx := 5) rfl (hI.wf.s rfl) rfl rfl rfl (hI.put0 (hI.wf.s rfl) rfl rfl) (hX.upI rfl) (fun g35 e35 hI hX => ?_)
              refine ev_ic f_X11_refuse (nx := 6) (v := -1) rfl (by decide) rfl ?_
              refine ev_retK1 f_X11_refuse rfl rfl rfl ?_
              refine ev_aluvL f_X11_together (nx := 32) (w := -1) rfl rfl rfl (by decide) rfl ?_
              exact ev_ret f_X11_together rfl rfl rfl ⟨_, _, _, rfl, hI, hX, ⟨_, rfl, (show ∀ (u : Nat) (D : s_D), gr 0 6 = .ref u → t_VL gr u → t_CV gi gl u D → t_Cb D → ((0 ≤ ar1.toInt ∧ ar1.toInt < D 0 ∧ 0 ≤ ar2.toInt ∧ ar2.toInt < D 0 ∧ 0 ≤ ar3.toInt ∧ ar3.toInt ≤ 12) → ((-1) : Int64) = s_hd D ar1.toInt ||| (s_hd D ar2.toInt <<< (ar3.toInt64 &&& 63))) ∧ (¬ (0 ≤ ar1.toInt ∧ ar1.toInt < D 0 ∧ 0 ≤ ar2.toInt ∧ ar2.toInt < D 0 ∧ 0 ≤ ar3.toInt ∧ ar3.toInt ≤ 12) → ((-1) : Int64).toInt = -1) from (by
                                                            intro u D hu hl hc hb
                                                            have ha : a5 = u := Value.ref.inj (e5.symm.trans hu)
                                                            subst ha
                                                            have hm := hc.1.1
                                                            exact ⟨fun h => absurd h (by omega), fun _ => (by decide)⟩))⟩⟩
noncomputable def wl_n_beatsOf : List (Nat × Nat) := []
noncomputable def Q_n_beatsOf (gi : Nat → Nat → Int32) (gl : Nat → Nat → Int64) (gr : Nat → Nat → Value) (ar1 : Int32) (ar2 : Int32) : Int64 → (Nat → Nat → Int32) → (Nat → Nat → Int64) → (Nat → Nat → Value) → Prop := fun (v : Int64) (gi2 : Nat → Nat → Int32) (gl2 : Nat → Nat → Int64) (gr2 : Nat → Nat → Value) => (0 ≤ v.toInt ∧ v.toInt < 16777216) ∧ (0 ≤ ar2.toInt → v = (s_bt (fun t => gi 70 (ar1.toNatClampNeg + t)) ar2.toNatClampNeg).1)
theorem c_n_beatsOf {X : x_Ext} {d : Nat} {sh : List (Nat ⊕ (Nat × Nat))} {gi : Nat → Nat → Int32} {gl : Nat → Nat → Int64} {gr : Nat → Nat → Value} (hI : t_I sh gi gr) (ar1 : Int32) (l_a1 : 11 ≤ ar1.toInt) (u_a1 : ar1.toInt ≤ 1752) (ar2 : Int32) (u_a2 : ar2.toInt ≤ 6) : x_Me X (d + 1) n_X12_beatsOf [.ref 69, .int ar1, .int ar2] (sh, gi, gl, gr) (t_PL wl_n_beatsOf sh gi gl gr (Q_n_beatsOf gi gl gr ar1 ar2)) := by
  have hX : t_X wl_n_beatsOf sh gi gl gr gi gl gr := t_X.rf
  refine me_i f_X12_beatsOf (hI.wf.s rfl) rfl rfl rfl ?_
  refine ev_lc f_X12_beatsOf (nx := 1) (v := 0) rfl (by decide) rfl ?_
  refine ev_loc f_X12_beatsOf (nx := 2) (lo' := [(3, .long 0), (0, .ref 69), (1, .int ar1), (2, .int ar2)]) rfl rfl rfl rfl ?_
  refine ev_ic f_X12_beatsOf (nx := 3) (v := 0) rfl (by decide) rfl ?_
  refine ev_loc f_X12_beatsOf (nx := 5) (lo' := [(5, .int 0), (3, .long 0), (0, .ref 69), (1, .int ar1), (2, .int ar2)]) rfl rfl rfl rfl ?_
  refine ev_ic f_X12_beatsOf (nx := 6) (v := 0) rfl (by decide) rfl ?_
  refine ev_loc f_X12_beatsOf (nx := 8) (lo' := [(6, .int 0), (5, .int 0), (3, .long 0), (0, .ref 69), (1, .int ar1), (2, .int ar2)]) rfl rfl rfl rfl ?_
  have L1 : ∀ (m1 : Nat) (y1_6 : Int32) (y1_5 : Int32) (y1_3 : Int64), 0 ≤ y1_6.toInt → y1_6.toInt ≤ 6 → 0 ≤ y1_5.toInt → y1_5.toInt ≤ 28 → 0 ≤ y1_3.toInt ∧ y1_3.toInt < 16777216 → y1_5.toInt ≤ 4 * y1_6.toInt → (0 ≤ ar2.toInt → y1_3 = (s_bt (fun t => gi 70 (ar1.toNatClampNeg + t)) y1_6.toNatClampNeg).1 ∧ y1_5.toInt = (s_bt (fun t => gi 70 (ar1.toNatClampNeg + t)) y1_6.toNatClampNeg).2 ∧ y1_6.toInt ≤ ar2.toInt) → (6 - y1_6.toInt).toNat = m1 → x_Ev X (d + 1) n_X12_beatsOf 8 [(6, .int y1_6), (5, .int y1_5), (3, .long y1_3), (0, .ref 69), (1, .int ar1), (2, .int ar2)] [] (sh, gi, gl, gr) (t_PL wl_n_beatsOf sh gi gl gr (Q_n_beatsOf gi gl gr ar1 ar2)) := by
    intro m1
    induction m1 using Nat.strongRecOn with
    | _ m1 ih1 =>
    intro y1_6 y1_5 y1_3 l1_6 u1_6 l1_5 u1_5 j1_0 j1_1 j1_2 hm1
    refine ev_loc f_X12_beatsOf (nx := 10) rfl rfl rfl rfl ?_
    refine ev_loc f_X12_beatsOf (nx := 11) rfl rfl rfl rfl ?_
    refine ev_if f_X12_beatsOf (t1 := 76) (t2 := 14) rfl rfl rfl (fun h2 => ?_) (fun h2 => ?_)
    · have r3 : ar2.toInt ≤ y1_6.toInt := Int32.le_iff_toInt_le.mp h2
      refine ev_loc f_X12_beatsOf (nx := 77) rfl rfl rfl rfl ?_
      exact ev_ret f_X12_beatsOf rfl rfl rfl ⟨_, _, _, rfl, hI, hX, ⟨_, rfl, (show (0 ≤ y1_3.toInt ∧ y1_3.toInt < 16777216) ∧ (0 ≤ ar2.toInt → y1_3 = (s_bt (fun t => gi 70 (ar1.toNatClampNeg + t)) ar2.toNatClampNeg).1) from ⟨by omega, (fun h => (by
                                                            obtain ⟨h1, h2, h3⟩ := j1_2 h
                                                            have c1 := t_clamp (i := y1_6) (by omega)
                                                            have c2 := t_clamp (i := ar2) h
                                                            rw [show ar2.toNatClampNeg = y1_6.toNatClampNeg from (by omega)]; exact h1))⟩)⟩⟩
    · have r4 : y1_6.toInt < ar2.toInt := Int32.lt_iff_toInt_lt.mp (t_nle h2)
      have u5 : y1_6.toInt ≤ 5 := t_ltu (t_nle h2) u_a2 rfl
      have l6 : 1 ≤ ar2.toInt := t_ltl (t_nle h2) l1_6 rfl
      refine ev_loc f_X12_beatsOf (nx := 15) rfl rfl rfl rfl ?_
      refine ev_getR f_X12_beatsOf (nx := 18) rfl (hI.wf.s rfl) rfl rfl (hI.wf.r rfl) rfl rfl ?_
      refine ev_loc f_X12_beatsOf (nx := 19) rfl rfl rfl rfl ?_
      refine ev_loc f_X12_beatsOf (nx := 21) rfl rfl rfl rfl ?_
      refine ev_addR f_X12_beatsOf (nx := 22) (l := 11) (u := 1757) rfl l_a1 u_a1 l1_6 u5 rfl rfl (by decide) (by decide) rfl (fun z7 e7 l7 u7 => ?_)
      refine ev_ialdT f_X12_beatsOf (nx := 23) rfl (hI.wf.s rfl) l7 (by decide) u7 (by decide) rfl (fun w8 e8 => ?_)
      refine ev_bp f_X12_beatsOf (nx := 25) (v := 108) rfl (by decide) rfl ?_
      refine ev_if f_X12_beatsOf (t1 := 28) (t2 := 32) rfl rfl rfl (fun h9 => ?_) (fun h9 => ?_)
      · have u10 : w8.toInt ≤ 108 := t_equ h9 (by decide : (108:Int32).toInt ≤ (108:Int))
        have l11 : 108 ≤ w8.toInt := t_eql h9 (by decide : (108:Int) ≤ (108:Int32).toInt)
        refine ev_ic f_X12_beatsOf (nx := 29) (v := 3) rfl (by decide) rfl ?_
        refine ev_jmp f_X12_beatsOf (nx := 33) rfl rfl rfl ?_
        refine ev_loc f_X12_beatsOf (nx := 35) (lo' := [(7, .int 3), (6, .int y1_6), (5, .int y1_5), (3, .long y1_3), (0, .ref 69), (1, .int ar1), (2, .int ar2)]) rfl rfl rfl rfl ?_
        refine ev_ic f_X12_beatsOf (nx := 36) (v := 0) rfl (by decide) rfl ?_
        refine ev_loc f_X12_beatsOf (nx := 38) (lo' := [(8, .int 0), (7, .int 3), (6, .int y1_6), (5, .int y1_5), (3, .long y1_3), (0, .ref 69), (1, .int ar1), (2, .int ar2)]) rfl rfl rfl rfl ?_
        have L12 : ∀ (m12 : Nat) (y12_8 : Int32) (y12_7 : Int32) (y12_3 : Int64), 0 ≤ y12_8.toInt → y12_8.toInt ≤ 3 → 1 ≤ y12_7.toInt → y12_7.toInt ≤ 3 → 0 ≤ y12_3.toInt ∧ y12_3.toInt < 16777216 → (0 ≤ ar2.toInt → y12_3 = s_bi (s_bt (fun t => gi 70 (ar1.toNatClampNeg + t)) y1_6.toNatClampNeg).1 (s_bt (fun t => gi 70 (ar1.toNatClampNeg + t)) y1_6.toNatClampNeg).2 y12_8.toNatClampNeg ∧ y12_8.toInt ≤ y12_7.toInt ∧ y12_7.toInt = (s_bn ((fun t => gi 70 (ar1.toNatClampNeg + t)) y1_6.toNatClampNeg) : Nat)) → (3 - y12_8.toInt).toNat = m12 → x_Ev X (d + 1) n_X12_beatsOf 38 [(8, .int y12_8), (7, .int y12_7), (6, .int y1_6), (5, .int y1_5), (3, .long y12_3), (0, .ref 69), (1, .int ar1), (2, .int ar2)] [] (sh, gi, gl, gr) (t_PL wl_n_beatsOf sh gi gl gr (Q_n_beatsOf gi gl gr ar1 ar2)) := by
          intro m12
          induction m12 using Nat.strongRecOn with
          | _ m12 ih12 =>
          intro y12_8 y12_7 y12_3 l12_8 u12_8 l12_7 u12_7 j12_0 j12_1 hm12
          refine ev_loc f_X12_beatsOf (nx := 40) rfl rfl rfl rfl ?_
          refine ev_loc f_X12_beatsOf (nx := 42) rfl rfl rfl rfl ?_
          refine ev_if f_X12_beatsOf (t1 := 61) (t2 := 45) rfl rfl rfl (fun h13 => ?_) (fun h13 => ?_)
          · have r14 : y12_7.toInt ≤ y12_8.toInt := Int32.le_iff_toInt_le.mp h13
            have l15 : 1 ≤ y12_8.toInt := t_lel h13 l12_7
            refine ev_loc f_X12_beatsOf (nx := 63) rfl rfl rfl rfl ?_
            refine ev_loc f_X12_beatsOf (nx := 65) rfl rfl rfl rfl ?_
            refine ev_ic f_X12_beatsOf (nx := 66) (v := 1) rfl (by decide) rfl ?_
            refine ev_addC f_X12_beatsOf (nx := 67) (c := 1) (l := 2) (u := 4) rfl (by decide) l12_7 u12_7 rfl rfl (by decide) (by decide) rfl (fun z16 e16 l16 u16 => ?_)
            refine ev_addR f_X12_beatsOf (nx := 68) (l := 2) (u := 32) rfl l1_5 u1_5 l16 u16 rfl rfl (by decide) (by decide) rfl (fun z17 e17 l17 u17 => ?_)
            refine ev_loc f_X12_beatsOf (nx := 70) (lo' := [(5, .int z17), (8, .int y12_8), (7, .int y12_7), (6, .int y1_6), (3, .long y12_3), (0, .ref 69), (1, .int ar1), (2, .int ar2)]) rfl rfl rfl rfl ?_
            refine ev_incR f_X12_beatsOf (nx := 73) (c := 1) (l := 1) (u := 6) rfl rfl (by decide) (by decide) l1_6 u5 rfl rfl (by decide) (by decide) rfl (fun z18 e18 l18 u18 => ?_)
            refine ev_jmp f_X12_beatsOf (nx := 8) rfl rfl rfl ?_
            refine ev_sub (lo := [(6, .int z18), (5, .int z17), (3, .long y12_3), (0, .ref 69), (1, .int ar1), (2, .int ar2)]) rfl (t_sc rfl (t_sc rfl (t_sc rfl (t_sc rfl (t_sc rfl (t_sc rfl t_sn)))))) ?_
            exact ih1 _ (by omega) (z18) (z17) (y12_3) (Int.le_trans (by decide : (0:Int) ≤ 1) l18) u18 (Int.le_trans (by decide : (0:Int) ≤ 2) l17) (by omega : z17.toInt ≤ (28:Int)) (by omega) (by omega) (fun h => (by
                                                            obtain ⟨h1, h2, h3⟩ := j1_2 h
                                                            obtain ⟨h4, h5, h6⟩ := j12_1 h
                                                            have h7 := s_bt_s (f := (fun t => gi 70 (ar1.toNatClampNeg + t))) (k := y1_6) (z := z18) (n := y12_7) (i := y12_8) (b := y1_5) (b' := z17) h4 h2 h6 (by omega) (by omega) (by omega) (by omega)
                                                            exact ⟨h7.1, h7.2, by omega⟩)) rfl
          · have r19 : y12_8.toInt < y12_7.toInt := Int32.lt_iff_toInt_lt.mp (t_nle h13)
            have u20 : y12_8.toInt ≤ 2 := t_ltu (t_nle h13) u12_7 rfl
            refine ev_loc f_X12_beatsOf (nx := 46) rfl rfl rfl rfl ?_
            refine ev_lc f_X12_beatsOf (nx := 47) (v := 1) rfl (by decide) rfl ?_
            refine ev_loc f_X12_beatsOf (nx := 49) rfl rfl rfl rfl ?_
            refine ev_loc f_X12_beatsOf (nx := 51) rfl rfl rfl rfl ?_
            refine ev_addR f_X12_beatsOf (nx := 52) (l := 0) (u := 30) rfl l1_5 u1_5 l12_8 u20 rfl rfl (by decide) (by decide) rfl (fun z21 e21 l21 u21 => ?_)
            refine ev_anyLE f_X12_beatsOf (nx := 53) rfl rfl rfl rfl (fun z22 e22 => ?_)
            refine ev_anyLE f_X12_beatsOf (nx := 54) rfl rfl rfl rfl (fun z23 e23 => ?_)
            refine ev_loc f_X12_beatsOf (nx := 55) (lo' := [(3, .long z23), (8, .int y12_8), (7, .int y12_7), (6, .int y1_6), (5, .int y1_5), (0, .ref 69), (1, .int ar1), (2, .int ar2)]) rfl rfl rfl rfl ?_
            refine ev_incR f_X12_beatsOf (nx := 58) (c := 1) (l := 1) (u := 3) rfl rfl (by decide) (by decide) l12_8 u20 rfl rfl (by decide) (by decide) rfl (fun z24 e24 l24 u24 => ?_)
            refine ev_jmp f_X12_beatsOf (nx := 38) rfl rfl rfl ?_
            refine ev_sub (lo := [(8, .int z24), (7, .int y12_7), (6, .int y1_6), (5, .int y1_5), (3, .long z23), (0, .ref 69), (1, .int ar1), (2, .int ar2)]) rfl (t_sc rfl (t_sc rfl (t_sc rfl (t_sc rfl (t_sc rfl (t_sc rfl (t_sc rfl (t_sc rfl t_sn)))))))) ?_
            exact ih12 _ (by omega) (z24) (y12_7) (z23) (Int.le_trans (by decide : (0:Int) ≤ 1) l24) u24 l12_7 u12_7 (t_lor1 e22 e23 (by omega) (by omega) (by omega)) (fun h => (by
                                                            obtain ⟨h4, h5, h6⟩ := j12_1 h
                                                            obtain ⟨h1, h2, h3⟩ := j1_2 h
                                                            exact ⟨s_bi_s h4 (by omega) (y := z21) (by omega) e22 e23 (by omega), by omega, h6⟩)) rfl
        refine ev_sub (lo := [(8, .int 0), (7, .int 3), (6, .int y1_6), (5, .int y1_5), (3, .long y1_3), (0, .ref 69), (1, .int ar1), (2, .int ar2)]) rfl (t_sc rfl (t_sc rfl (t_sc rfl (t_sc rfl (t_sc rfl (t_sc rfl (t_sc rfl (t_sc rfl t_sn)))))))) ?_
        exact L12 _ (0) (3) (y1_3) (by decide : (0:Int) ≤ (0:Int32).toInt) (Int.le_trans (by decide : (0:Int32).toInt ≤ (0:Int)) (by decide : (0:Int) ≤ 3)) (Int.le_trans (by decide : (1:Int) ≤ 3) (by decide : (3:Int) ≤ (3:Int32).toInt)) (by decide : (3:Int32).toInt ≤ (3:Int)) (by omega) (fun h => (by
                                                            obtain ⟨h1, h2, h3⟩ := j1_2 h
                                                            have hk : w8 = gi 70 (ar1.toNatClampNeg + y1_6.toNatClampNeg) := by rw [e8, show z7.toNatClampNeg = ar1.toNatClampNeg + y1_6.toNatClampNeg from (by have c1 := t_clamp (i := z7) (by omega); have c2 := t_clamp (i := ar1) (by omega); have c3 := t_clamp (i := y1_6) (by omega); omega)]
                                                            refine ⟨h1, by first | omega | decide, ?_⟩
                                                            have h6 : s_bn (gi 70 (ar1.toNatClampNeg + y1_6.toNatClampNeg)) = 3 := by unfold s_bn; rw [← hk, if_pos (by omega)]
                                                            exact (congrArg (fun x : Nat => (x : Int)) h6).symm)) rfl
      · have r25 : w8.toInt ≠ 108 := fun e => h9 (Int32.toInt_inj.mp (e.trans (by decide : (108:Int) = (108 : Int32).toInt)))
        refine ev_ic f_X12_beatsOf (nx := 33) (v := 1) rfl (by decide) rfl ?_
        refine ev_loc f_X12_beatsOf (nx := 35) (lo' := [(7, .int 1), (6, .int y1_6), (5, .int y1_5), (3, .long y1_3), (0, .ref 69), (1, .int ar1), (2, .int ar2)]) rfl rfl rfl rfl ?_
        refine ev_ic f_X12_beatsOf (nx := 36) (v := 0) rfl (by decide) rfl ?_
        refine ev_loc f_X12_beatsOf (nx := 38) (lo' := [(8, .int 0), (7, .int 1), (6, .int y1_6), (5, .int y1_5), (3, .long y1_3), (0, .ref 69), (1, .int ar1), (2, .int ar2)]) rfl rfl rfl rfl ?_
        have L26 : ∀ (m26 : Nat) (y26_8 : Int32) (y26_7 : Int32) (y26_3 : Int64), 0 ≤ y26_8.toInt → y26_8.toInt ≤ 3 → 1 ≤ y26_7.toInt → y26_7.toInt ≤ 3 → 0 ≤ y26_3.toInt ∧ y26_3.toInt < 16777216 → (0 ≤ ar2.toInt → y26_3 = s_bi (s_bt (fun t => gi 70 (ar1.toNatClampNeg + t)) y1_6.toNatClampNeg).1 (s_bt (fun t => gi 70 (ar1.toNatClampNeg + t)) y1_6.toNatClampNeg).2 y26_8.toNatClampNeg ∧ y26_8.toInt ≤ y26_7.toInt ∧ y26_7.toInt = (s_bn ((fun t => gi 70 (ar1.toNatClampNeg + t)) y1_6.toNatClampNeg) : Nat)) → (3 - y26_8.toInt).toNat = m26 → x_Ev X (d + 1) n_X12_beatsOf 38 [(8, .int y26_8), (7, .int y26_7), (6, .int y1_6), (5, .int y1_5), (3, .long y26_3), (0, .ref 69), (1, .int ar1), (2, .int ar2)] [] (sh, gi, gl, gr) (t_PL wl_n_beatsOf sh gi gl gr (Q_n_beatsOf gi gl gr ar1 ar2)) := by
          intro m26
          induction m26 using Nat.strongRecOn with
          | _ m26 ih26 =>
          intro y26_8 y26_7 y26_3 l26_8 u26_8 l26_7 u26_7 j26_0 j26_1 hm26
          refine ev_loc f_X12_beatsOf (nx := 40) rfl rfl rfl rfl ?_
          refine ev_loc f_X12_beatsOf (nx := 42) rfl rfl rfl rfl ?_
          refine ev_if f_X12_beatsOf (t1 := 61) (t2 := 45) rfl rfl rfl (fun h27 => ?_) (fun h27 => ?_)
          · have r28 : y26_7.toInt ≤ y26_8.toInt := Int32.le_iff_toInt_le.mp h27
            have l29 : 1 ≤ y26_8.toInt := t_lel h27 l26_7
            refine ev_loc f_X12_beatsOf (nx := 63) rfl rfl rfl rfl ?_
            refine ev_loc f_X12_beatsOf (nx := 65) rfl rfl rfl rfl ?_
            refine ev_ic f_X12_beatsOf (nx := 66) (v := 1) rfl (by decide) rfl ?_
            refine ev_addC f_X12_beatsOf (nx := 67) (c := 1) (l := 2) (u := 4) rfl (by decide) l26_7 u26_7 rfl rfl (by decide) (by decide) rfl (fun z30 e30 l30 u30 => ?_)
            refine ev_addR f_X12_beatsOf (nx := 68) (l := 2) (u := 32) rfl l1_5 u1_5 l30 u30 rfl rfl (by decide) (by decide) rfl (fun z31 e31 l31 u31 => ?_)
            refine ev_loc f_X12_beatsOf (nx := 70) (lo' := [(5, .int z31), (8, .int y26_8), (7, .int y26_7), (6, .int y1_6), (3, .long y26_3), (0, .ref 69), (1, .int ar1), (2, .int ar2)]) rfl rfl rfl rfl ?_
            refine ev_incR f_X12_beatsOf (nx := 73) (c := 1) (l := 1) (u := 6) rfl rfl (by decide) (by decide) l1_6 u5 rfl rfl (by decide) (by decide) rfl (fun z32 e32 l32 u32 => ?_)
            refine ev_jmp f_X12_beatsOf (nx := 8) rfl rfl rfl ?_
            refine ev_sub (lo := [(6, .int z32), (5, .int z31), (3, .long y26_3), (0, .ref 69), (1, .int ar1), (2, .int ar2)]) rfl (t_sc rfl (t_sc rfl (t_sc rfl (t_sc rfl (t_sc rfl (t_sc rfl t_sn)))))) ?_
            exact ih1 _ (by omega) (z32) (z31) (y26_3) (Int.le_trans (by decide : (0:Int) ≤ 1) l32) u32 (Int.le_trans (by decide : (0:Int) ≤ 2) l31) (by omega : z31.toInt ≤ (28:Int)) (by omega) (by omega) (fun h => (by
                                                            obtain ⟨h1, h2, h3⟩ := j1_2 h
                                                            obtain ⟨h4, h5, h6⟩ := j26_1 h
                                                            have h7 := s_bt_s (f := (fun t => gi 70 (ar1.toNatClampNeg + t))) (k := y1_6) (z := z32) (n := y26_7) (i := y26_8) (b := y1_5) (b' := z31) h4 h2 h6 (by omega) (by omega) (by omega) (by omega)
                                                            exact ⟨h7.1, h7.2, by omega⟩)) rfl
          · have r33 : y26_8.toInt < y26_7.toInt := Int32.lt_iff_toInt_lt.mp (t_nle h27)
            have u34 : y26_8.toInt ≤ 2 := t_ltu (t_nle h27) u26_7 rfl
            refine ev_loc f_X12_beatsOf (nx := 46) rfl rfl rfl rfl ?_
            refine ev_lc f_X12_beatsOf (nx := 47) (v := 1) rfl (by decide) rfl ?_
            refine ev_loc f_X12_beatsOf (nx := 49) rfl rfl rfl rfl ?_
            refine ev_loc f_X12_beatsOf (nx := 51) rfl rfl rfl rfl ?_
            refine ev_addR f_X12_beatsOf (nx := 52) (l := 0) (u := 30) rfl l1_5 u1_5 l26_8 u34 rfl rfl (by decide) (by decide) rfl (fun z35 e35 l35 u35 => ?_)
            refine ev_anyLE f_X12_beatsOf (nx := 53) rfl rfl rfl rfl (fun z36 e36 => ?_)
            refine ev_anyLE f_X12_beatsOf (nx := 54) rfl rfl rfl rfl (fun z37 e37 => ?_)
            refine ev_loc f_X12_beatsOf (nx := 55) (lo' := [(3, .long z37), (8, .int y26_8), (7, .int y26_7), (6, .int y1_6), (5, .int y1_5), (0, .ref 69), (1, .int ar1), (2, .int ar2)]) rfl rfl rfl rfl ?_
            refine ev_incR f_X12_beatsOf (nx := 58) (c := 1) (l := 1) (u := 3) rfl rfl (by decide) (by decide) l26_8 u34 rfl rfl (by decide) (by decide) rfl (fun z38 e38 l38 u38 => ?_)
            refine ev_jmp f_X12_beatsOf (nx := 38) rfl rfl rfl ?_
            refine ev_sub (lo := [(8, .int z38), (7, .int y26_7), (6, .int y1_6), (5, .int y1_5), (3, .long z37), (0, .ref 69), (1, .int ar1), (2, .int ar2)]) rfl (t_sc rfl (t_sc rfl (t_sc rfl (t_sc rfl (t_sc rfl (t_sc rfl (t_sc rfl (t_sc rfl t_sn)))))))) ?_
            exact ih26 _ (by omega) (z38) (y26_7) (z37) (Int.le_trans (by decide : (0:Int) ≤ 1) l38) u38 l26_7 u26_7 (t_lor1 e36 e37 (by omega) (by omega) (by omega)) (fun h => (by
                                                            obtain ⟨h4, h5, h6⟩ := j26_1 h
                                                            obtain ⟨h1, h2, h3⟩ := j1_2 h
                                                            exact ⟨s_bi_s h4 (by omega) (y := z35) (by omega) e36 e37 (by omega), by omega, h6⟩)) rfl
        refine ev_sub (lo := [(8, .int 0), (7, .int 1), (6, .int y1_6), (5, .int y1_5), (3, .long y1_3), (0, .ref 69), (1, .int ar1), (2, .int ar2)]) rfl (t_sc rfl (t_sc rfl (t_sc rfl (t_sc rfl (t_sc rfl (t_sc rfl (t_sc rfl (t_sc rfl t_sn)))))))) ?_
        exact L26 _ (0) (1) (y1_3) (by decide : (0:Int) ≤ (0:Int32).toInt) (Int.le_trans (by decide : (0:Int32).toInt ≤ (0:Int)) (by decide : (0:Int) ≤ 3)) (by decide : (1:Int) ≤ (1:Int32).toInt) (Int.le_trans (by decide : (1:Int32).toInt ≤ (1:Int)) (by decide : (1:Int) ≤ 3)) (by omega) (fun h => (by
                                                            obtain ⟨h1, h2, h3⟩ := j1_2 h
                                                            have hk : w8 = gi 70 (ar1.toNatClampNeg + y1_6.toNatClampNeg) := by rw [e8, show z7.toNatClampNeg = ar1.toNatClampNeg + y1_6.toNatClampNeg from (by have c1 := t_clamp (i := z7) (by omega); have c2 := t_clamp (i := ar1) (by omega); have c3 := t_clamp (i := y1_6) (by omega); omega)]
                                                            refine ⟨h1, by first | omega | decide, ?_⟩
                                                            have h6 : s_bn (gi 70 (ar1.toNatClampNeg + y1_6.toNatClampNeg)) = 1 := by unfold s_bn; rw [← hk, if_neg (by omega)]
                                                            exact (congrArg (fun x : Nat => (x : Int)) h6).symm)) rfl
  refine ev_sub (lo := [(6, .int 0), (5, .int 0), (3, .long 0), (0, .ref 69), (1, .int ar1), (2, .int ar2)]) rfl (t_sc rfl (t_sc rfl (t_sc rfl (t_sc rfl (t_sc rfl (t_sc rfl t_sn)))))) ?_
  exact L1 _ (0) (0) (0) (by decide : (0:Int) ≤ (0:Int32).toInt) (Int.le_trans (by decide : (0:Int32).toInt ≤ (0:Int)) (by decide : (0:Int) ≤ 6)) (by decide : (0:Int) ≤ (0:Int32).toInt) (Int.le_trans (by decide : (0:Int32).toInt ≤ (0:Int)) (by decide : (0:Int) ≤ 28)) (by decide) (by have kf39 : (0 : Int32).toInt = 0 := (by decide); omega) (fun h => ⟨rfl, rfl, by have z0 : (0 : Int32).toInt = 0 := rfl; omega⟩) rfl
noncomputable def wl_n_heardOf : List (Nat × Nat) := []
noncomputable def Q_n_heardOf (gi : Nat → Nat → Int32) (gl : Nat → Nat → Int64) (gr : Nat → Nat → Value) (ar1 : Int32) : Int64 → (Nat → Nat → Int32) → (Nat → Nat → Int64) → (Nat → Nat → Value) → Prop := fun (v : Int64) (gi2 : Nat → Nat → Int32) (gl2 : Nat → Nat → Int64) (gr2 : Nat → Nat → Value) => (0 ≤ v.toInt ∧ v.toInt < 8589934592) ∧ ∀ D : s_D, t_ME 0 gi D → ar1.toInt < D 0 → v = s_ec (s_so D ar1.toNatClampNeg) (D 7)
theorem c_n_heardOf {X : x_Ext} {d : Nat} {sh : List (Nat ⊕ (Nat × Nat))} {gi : Nat → Nat → Int32} {gl : Nat → Nat → Int64} {gr : Nat → Nat → Value} (hI : t_I sh gi gr) (ar1 : Int32) (l_a1 : 0 ≤ ar1.toInt) (u_a1 : ar1.toInt ≤ 5) : x_Me X (d + 3) n_X12_heardOf [.ref 69, .int ar1] (sh, gi, gl, gr) (t_PL wl_n_heardOf sh gi gl gr (Q_n_heardOf gi gl gr ar1)) := by
  have hX : t_X wl_n_heardOf sh gi gl gr gi gl gr := t_X.rf
  refine me_i f_X12_heardOf (hI.wf.s rfl) rfl rfl rfl ?_
  refine ev_loc f_X12_heardOf (nx := 1) rfl rfl rfl rfl ?_
  refine ev_loc f_X12_heardOf (nx := 2) rfl rfl rfl rfl ?_
  refine ev_inV2 f_X12_heardOf (nx := 5) (lo2 := [(0, .ref 69), (1, .int ar1)]) rfl rfl rfl rfl f_X12_soundOf (hI.wf.s rfl) rfl rfl rfl rfl rfl ?_
  refine ev_loc f_X12_soundOf (nx := 1) rfl rfl rfl rfl ?_
  refine ev_bp f_X12_soundOf (nx := 3) (v := 10) rfl (by decide) rfl ?_
  refine ev_bp f_X12_soundOf (nx := 5) (v := 7) rfl (by decide) rfl ?_
  refine ev_loc f_X12_soundOf (nx := 6) rfl rfl rfl rfl ?_
  refine ev_mulL f_X12_soundOf (nx := 7) (c := 7) (l := 0) (u := 35) rfl (by decide) (by decide) l_a1 u_a1 rfl rfl (by decide) (by decide) rfl (fun z1 e1 l1 u1 => ?_)
  refine ev_addK f_X12_soundOf (nx := 8) (c := 10) (l := 10) (u := 45) rfl (by decide) l1 u1 rfl rfl (by decide) (by decide) rfl (fun z2 e2 l2 u2 => ?_)
  refine ev_ic f_X12_soundOf (nx := 9) (v := 1) rfl (by decide) rfl ?_
  refine ev_addC f_X12_soundOf (nx := 10) (c := 1) (l := 11) (u := 46) rfl (by decide) l2 u2 rfl rfl (by decide) (by decide) rfl (fun z3 e3 l3 u3 => ?_)
  refine ev_loc f_X12_soundOf (nx := 11) rfl rfl rfl rfl ?_
  refine ev_getR f_X12_soundOf (nx := 14) rfl (hI.wf.s rfl) rfl rfl (hI.wf.r rfl) rfl rfl ?_
  refine ev_bp f_X12_soundOf (nx := 16) (v := 10) rfl (by decide) rfl ?_
  refine ev_bp f_X12_soundOf (nx := 18) (v := 7) rfl (by decide) rfl ?_
  refine ev_loc f_X12_soundOf (nx := 19) rfl rfl rfl rfl ?_
  refine ev_mulL f_X12_soundOf (nx := 20) (c := 7) (l := 0) (u := 35) rfl (by decide) (by decide) l_a1 u_a1 rfl rfl (by decide) (by decide) rfl (fun z4 e4 l4 u4 => ?_)
  refine ev_addK f_X12_soundOf (nx := 21) (c := 10) (l := 10) (u := 45) rfl (by decide) l4 u4 rfl rfl (by decide) (by decide) rfl (fun z5 e5 l5 u5 => ?_)
  refine ev_ialdT f_X12_soundOf (nx := 22) rfl (hI.wf.s rfl) l5 (by decide) u5 (by decide) rfl (fun w6 e6 => ?_)
  obtain ⟨l6, u6⟩ := hI.abA (x := ar1) e6 (by decide +kernel : t_aba 70 10 7 0 5 (-900) 6 = true) (by omega) (by omega) (by omega)
  refine ev_qL0 f_X12_soundOf (nx := 25) (r := []) rfl rfl rfl rfl rfl rfl rfl (c_n_beatsOf hI (z3) l3 (Int.le_trans u3 (by decide : (46:Int) ≤ 1752)) (w6) u6) rfl (fun w7 q7 => ?_)
  have q7 : (0 ≤ w7.toInt ∧ w7.toInt < 16777216) ∧ (0 ≤ w6.toInt → w7 = (s_bt (fun t => gi 70 (z3.toNatClampNeg + t)) w6.toNatClampNeg).1) := q7
  refine ev_retK1 f_X12_soundOf rfl rfl rfl ?_
  refine ev_loc f_X12_heardOf (nx := 6) rfl rfl rfl rfl ?_
  refine ev_getR f_X12_heardOf (nx := 9) rfl (hI.wf.s rfl) rfl rfl (hI.wf.r rfl) rfl rfl ?_
  refine ev_bp f_X12_heardOf (nx := 11) (v := 7) rfl (by decide) rfl ?_
  obtain ⟨l8, u8⟩ := hI.ab (by decide +kernel : t_abr 70 7 7 0 9 = true) (Nat.le_refl _) (Nat.le_refl _)
  refine ev_ialdv f_X12_heardOf (nx := 12) (w := (gi 70 7)) rfl (hI.wf.s rfl) (by decide) (rfl : (7 : Int32).toNatClampNeg = 7) (by decide) rfl rfl ?_
  refine ev_inS2 f_X12_heardOf (nx := 15) (lo2 := [(0, .long w7), (2, .int (gi 70 7))]) rfl rfl rfl rfl f_X12_echoed rfl rfl rfl rfl ?_
  refine ev_loc f_X12_echoed (nx := 1) rfl rfl rfl rfl ?_
  refine ev_if f_X12_echoed (t1 := 4) (t2 := 8) rfl rfl rfl (fun h9 => ?_) (fun h9 => ?_)
  · have u10 : (gi 70 7).toInt ≤ 0 := t_equ h9 (by decide : (0:Int32).toInt ≤ (0:Int))
    refine ev_loc f_X12_echoed (nx := 5) rfl rfl rfl rfl ?_
    refine ev_jmp f_X12_echoed (nx := 13) rfl rfl rfl ?_
    refine ev_retK1 f_X12_echoed rfl rfl rfl ?_
    exact ev_ret f_X12_heardOf rfl rfl rfl ⟨_, _, _, rfl, hI, hX, ⟨_, rfl, (show (0 ≤ w7.toInt ∧ w7.toInt < 8589934592) ∧ ∀ D : s_D, t_ME 0 gi D → ar1.toInt < D 0 → w7 = s_ec (s_so D ar1.toNatClampNeg) (D 7) from ⟨(by omega), (by
                                                            intro D hm hp
                                                            have h0 : (gi 70 0).toInt = D 0 := hm.1.1.1
                                                            have h7 : (gi 70 7).toInt = D 7 := hm.1.2.2.2.2
                                                            have ka := t_clamp (i := ar1) (by omega)
                                                            have kz := t_clamp (i := z3) (by omega)
                                                            have ki := t_clamp (i := z5) (by omega)
                                                            have hw := s_so_q (g := gi 70) (hm.2.1 ar1.toNatClampNeg (by omega)) e6 (by omega) (by omega) q7.2
                                                            rw [show D 7 = 0 by omega, s_ec_0]; exact hw)⟩)⟩⟩
  · have r11 : (gi 70 7).toInt ≠ 0 := fun e => h9 (Int32.toInt_inj.mp (e.trans (by decide : (0:Int) = (0 : Int32).toInt)))
    have l12 : 1 ≤ (gi 70 7).toInt := t_nel h9 l8 rfl rfl
    refine ev_loc f_X12_echoed (nx := 9) rfl rfl rfl rfl ?_
    refine ev_loc f_X12_echoed (nx := 10) rfl rfl rfl rfl ?_
    refine ev_loc f_X12_echoed (nx := 11) rfl rfl rfl rfl ?_
    refine ev_anyLE f_X12_echoed (nx := 12) rfl rfl rfl rfl (fun z13 e13 => ?_)
    refine ev_anyLE f_X12_echoed (nx := 13) rfl rfl rfl rfl (fun z14 e14 => ?_)
    refine ev_retK1 f_X12_echoed rfl rfl rfl ?_
    exact ev_ret f_X12_heardOf rfl rfl rfl ⟨_, _, _, rfl, hI, hX, ⟨_, rfl, (show (0 ≤ z14.toInt ∧ z14.toInt < 8589934592) ∧ ∀ D : s_D, t_ME 0 gi D → ar1.toInt < D 0 → z14 = s_ec (s_so D ar1.toNatClampNeg) (D 7) from ⟨(t_ech e13 e14 (by omega) (by omega) (by omega)), (by
                                                            intro D hm hp
                                                            have h0 : (gi 70 0).toInt = D 0 := hm.1.1.1
                                                            have h7 : (gi 70 7).toInt = D 7 := hm.1.2.2.2.2
                                                            have ka := t_clamp (i := ar1) (by omega)
                                                            have kz := t_clamp (i := z3) (by omega)
                                                            have ki := t_clamp (i := z5) (by omega)
                                                            have hw := s_so_q (g := gi 70) (hm.2.1 ar1.toNatClampNeg (by omega)) e6 (by omega) (by omega) q7.2
                                                            rw [← hw]
                                                            exact s_ec_e e13 e14 h7)⟩)⟩⟩
noncomputable def wl_e_sound : List (Nat × Nat) := [(69, 2)]
noncomputable def Q_e_sound (gi : Nat → Nat → Int32) (gl : Nat → Nat → Int64) (gr : Nat → Nat → Value) (ar1 : Int32) : Int64 → (Nat → Nat → Int32) → (Nat → Nat → Int64) → (Nat → Nat → Value) → Prop := fun (v : Int64) (gi2 : Nat → Nat → Int32) (gl2 : Nat → Nat → Int64) (gr2 : Nat → Nat → Value) => ∀ D : s_D, t_ME 0 gi D → t_Cb D → ((0 ≤ ar1.toInt ∧ ar1.toInt < D 0) → v = s_so D ar1.toNatClampNeg) ∧ (¬ (0 ≤ ar1.toInt ∧ ar1.toInt < D 0) → v.toInt = -1)
theorem c_e_sound {X : x_Ext} {d : Nat} {sh : List (Nat ⊕ (Nat × Nat))} {gi : Nat → Nat → Int32} {gl : Nat → Nat → Int64} {gr : Nat → Nat → Value} (hI : t_I sh gi gr) (ar1 : Int32) : x_Me X (d + 3) n_X12_sound [.ref 69, .int ar1] (sh, gi, gl, gr) (t_PL wl_e_sound sh gi gl gr (Q_e_sound gi gl gr ar1)) := by
  have hX : t_X wl_e_sound sh gi gl gr gi gl gr := t_X.rf
  refine me_i f_X12_sound (hI.wf.s rfl) rfl rfl rfl ?_
  refine ev_loc f_X12_sound (nx := 1) rfl rfl rfl rfl ?_
  refine ev_loc f_X12_sound (nx := 2) rfl rfl rfl rfl ?_
  refine ev_inV2 f_X12_sound (nx := 5) (lo2 := [(0, .ref 69), (1, .int ar1)]) rfl rfl rfl rfl f_X12_isPort (hI.wf.s rfl) rfl rfl rfl rfl rfl ?_
  refine ev_loc f_X12_isPort (nx := 1) rfl rfl rfl rfl ?_
  refine ev_if f_X12_isPort (t1 := 18) (t2 := 4) rfl rfl rfl (fun h1 => ?_) (fun h1 => ?_)
  · have u2 : ar1.toInt ≤ (-1) := t_ltu h1 (by decide : (0:Int32).toInt ≤ (0:Int)) rfl
    refine ev_ic f_X12_isPort (nx := 19) (v := 0) rfl (by decide) rfl ?_
    refine ev_retK1 f_X12_isPort rfl rfl rfl ?_
    refine ev_t f_X12_sound (t1 := 20) (t2 := 8) rfl rfl rfl (by decide) ?_
    refine ev_loc f_X12_sound (nx := 21) rfl rfl rfl rfl ?_
    refine ev_ic f_X12_sound (nx := 22) (v := 1) rfl (by decide) rfl ?_
    refine ev_inV2 f_X12_sound (nx := 25) (lo2 := [(0, .ref 69), (1, .int 1)]) rfl rfl rfl rfl f_X12_refuse (hI.wf.s rfl) rfl rfl rfl rfl rfl ?_
    refine ev_loc f_X12_refuse (nx := 1) rfl rfl rfl rfl ?_
    refine ev_loc f_X12_refuse (nx := 2) rfl rfl rfl rfl ?_
    refine ev_putIT f_X12_refuse (nx := 5) rfl (hI.wf.s rfl) rfl rfl rfl (hI.put0 (hI.wf.s rfl) rfl rfl) (hX.upI rfl) (fun g3 e3 hI hX => ?_)
    refine ev_ic f_X12_refuse (nx := 6) (v := -1) rfl (by decide) rfl ?_
    refine ev_retK1 f_X12_refuse rfl rfl rfl ?_
    refine ev_aluvL f_X12_sound (nx := 26) (w := -1) rfl rfl rfl (by decide) rfl ?_
    exact ev_ret f_X12_sound rfl rfl rfl ⟨_, _, _, rfl, hI, hX, ⟨_, rfl, (show ∀ D : s_D, t_ME 0 gi D → t_Cb D → ((0 ≤ ar1.toInt ∧ ar1.toInt < D 0) → ((-1) : Int64) = s_so D ar1.toNatClampNeg) ∧ (¬ (0 ≤ ar1.toInt ∧ ar1.toInt < D 0) → ((-1) : Int64).toInt = -1) from (by
                                                            intro D hm hb
                                                            have h0 : (gi 70 0).toInt = D 0 := hm.1.1.1
                                                            exact ⟨fun h => absurd h (by omega), fun _ => (by decide)⟩))⟩⟩
  · have l4 : 0 ≤ ar1.toInt := t_lel (t_nlt h1) (by decide : (0:Int) ≤ (0:Int32).toInt)
    refine ev_loc f_X12_isPort (nx := 5) rfl rfl rfl rfl ?_
    refine ev_loc f_X12_isPort (nx := 6) rfl rfl rfl rfl ?_
    refine ev_getR f_X12_isPort (nx := 9) rfl (hI.wf.s rfl) rfl rfl (hI.wf.r rfl) rfl rfl ?_
    refine ev_ic f_X12_isPort (nx := 10) (v := 0) rfl (by decide) rfl ?_
    obtain ⟨l5, u5⟩ := hI.ab (by decide +kernel : t_abr 70 0 0 0 6 = true) (Nat.le_refl _) (Nat.le_refl _)
    refine ev_ialdv f_X12_isPort (nx := 11) (w := (gi 70 0)) rfl (hI.wf.s rfl) (by decide) (rfl : (0 : Int32).toNatClampNeg = 0) (by decide) rfl rfl ?_
    refine ev_if f_X12_isPort (t1 := 18) (t2 := 14) rfl rfl rfl (fun h6 => ?_) (fun h6 => ?_)
    · have r7 : (gi 70 0).toInt ≤ ar1.toInt := Int32.le_iff_toInt_le.mp h6
      refine ev_ic f_X12_isPort (nx := 19) (v := 0) rfl (by decide) rfl ?_
      refine ev_retK1 f_X12_isPort rfl rfl rfl ?_
      refine ev_t f_X12_sound (t1 := 20) (t2 := 8) rfl rfl rfl (by decide) ?_
      refine ev_loc f_X12_sound (nx := 21) rfl rfl rfl rfl ?_
      refine ev_ic f_X12_sound (nx := 22) (v := 1) rfl (by decide) rfl ?_
      refine ev_inV2 f_X12_sound (nx := 25) (lo2 := [(0, .ref 69), (1, .int 1)]) rfl rfl rfl rfl f_X12_refuse (hI.wf.s rfl) rfl rfl rfl rfl rfl ?_
      refine ev_loc f_X12_refuse (nx := 1) rfl rfl rfl rfl ?_
      refine ev_loc f_X12_refuse (nx := 2) rfl rfl rfl rfl ?_
      refine ev_putIT f_X12_refuse (nx := 5) rfl (hI.wf.s rfl) rfl rfl rfl (hI.put0 (hI.wf.s rfl) rfl rfl) (hX.upI rfl) (fun g8 e8 hI hX => ?_)
      refine ev_ic f_X12_refuse (nx := 6) (v := -1) rfl (by decide) rfl ?_
      refine ev_retK1 f_X12_refuse rfl rfl rfl ?_
      refine ev_aluvL f_X12_sound (nx := 26) (w := -1) rfl rfl rfl (by decide) rfl ?_
      exact ev_ret f_X12_sound rfl rfl rfl ⟨_, _, _, rfl, hI, hX, ⟨_, rfl, (show ∀ D : s_D, t_ME 0 gi D → t_Cb D → ((0 ≤ ar1.toInt ∧ ar1.toInt < D 0) → ((-1) : Int64) = s_so D ar1.toNatClampNeg) ∧ (¬ (0 ≤ ar1.toInt ∧ ar1.toInt < D 0) → ((-1) : Int64).toInt = -1) from (by
                                                            intro D hm hb
                                                            have h0 : (gi 70 0).toInt = D 0 := hm.1.1.1
                                                            exact ⟨fun h => absurd h (by omega), fun _ => (by decide)⟩))⟩⟩
    · have r9 : ar1.toInt < (gi 70 0).toInt := Int32.lt_iff_toInt_lt.mp (t_nle h6)
      have u10 : ar1.toInt ≤ 5 := t_ltu (t_nle h6) u5 rfl
      have l11 : 1 ≤ (gi 70 0).toInt := t_ltl (t_nle h6) l4 rfl
      refine ev_ic f_X12_isPort (nx := 15) (v := 1) rfl (by decide) rfl ?_
      refine ev_jmp f_X12_isPort (nx := 19) rfl rfl rfl ?_
      refine ev_retK1 f_X12_isPort rfl rfl rfl ?_
      refine ev_f f_X12_sound (t1 := 20) (t2 := 8) rfl rfl rfl (by decide) ?_
      refine ev_loc f_X12_sound (nx := 9) rfl rfl rfl rfl ?_
      refine ev_loc f_X12_sound (nx := 10) rfl rfl rfl rfl ?_
      refine ev_loc f_X12_sound (nx := 11) rfl rfl rfl rfl ?_
      refine ev_inV2 f_X12_sound (nx := 14) (lo2 := [(0, .ref 69), (1, .int ar1)]) rfl rfl rfl rfl f_X12_soundOf (hI.wf.s rfl) rfl rfl rfl rfl rfl ?_
      refine ev_loc f_X12_soundOf (nx := 1) rfl rfl rfl rfl ?_
      refine ev_bp f_X12_soundOf (nx := 3) (v := 10) rfl (by decide) rfl ?_
      refine ev_bp f_X12_soundOf (nx := 5) (v := 7) rfl (by decide) rfl ?_
      refine ev_loc f_X12_soundOf (nx := 6) rfl rfl rfl rfl ?_
      refine ev_mulL f_X12_soundOf (nx := 7) (c := 7) (l := 0) (u := 35) rfl (by decide) (by decide) l4 u10 rfl rfl (by decide) (by decide) rfl (fun z12 e12 l12 u12 => ?_)
      refine ev_addK f_X12_soundOf (nx := 8) (c := 10) (l := 10) (u := 45) rfl (by decide) l12 u12 rfl rfl (by decide) (by decide) rfl (fun z13 e13 l13 u13 => ?_)
      refine ev_ic f_X12_soundOf (nx := 9) (v := 1) rfl (by decide) rfl ?_
      refine ev_addC f_X12_soundOf (nx := 10) (c := 1) (l := 11) (u := 46) rfl (by decide) l13 u13 rfl rfl (by decide) (by decide) rfl (fun z14 e14 l14 u14 => ?_)
      refine ev_loc f_X12_soundOf (nx := 11) rfl rfl rfl rfl ?_
      refine ev_getR f_X12_soundOf (nx := 14) rfl (hI.wf.s rfl) rfl rfl (hI.wf.r rfl) rfl rfl ?_
      refine ev_bp f_X12_soundOf (nx := 16) (v := 10) rfl (by decide) rfl ?_
      refine ev_bp f_X12_soundOf (nx := 18) (v := 7) rfl (by decide) rfl ?_
      refine ev_loc f_X12_soundOf (nx := 19) rfl rfl rfl rfl ?_
      refine ev_mulL f_X12_soundOf (nx := 20) (c := 7) (l := 0) (u := 35) rfl (by decide) (by decide) l4 u10 rfl rfl (by decide) (by decide) rfl (fun z15 e15 l15 u15 => ?_)
      refine ev_addK f_X12_soundOf (nx := 21) (c := 10) (l := 10) (u := 45) rfl (by decide) l15 u15 rfl rfl (by decide) (by decide) rfl (fun z16 e16 l16 u16 => ?_)
      refine ev_ialdT f_X12_soundOf (nx := 22) rfl (hI.wf.s rfl) l16 (by decide) u16 (by decide) rfl (fun w17 e17 => ?_)
      obtain ⟨l17, u17⟩ := hI.abA (x := ar1) e17 (by decide +kernel : t_aba 70 10 7 0 5 (-900) 6 = true) (by omega) (by omega) (by omega)
      refine ev_qL0 f_X12_soundOf (nx := 25) (r := []) rfl rfl rfl rfl rfl rfl rfl (c_n_beatsOf hI (z14) l14 (Int.le_trans u14 (by decide : (46:Int) ≤ 1752)) (w17) u17) rfl (fun w18 q18 => ?_)
      have q18 : (0 ≤ w18.toInt ∧ w18.toInt < 16777216) ∧ (0 ≤ w17.toInt → w18 = (s_bt (fun t => gi 70 (z14.toNatClampNeg + t)) w17.toNatClampNeg).1) := q18
      refine ev_retK1 f_X12_soundOf rfl rfl rfl ?_
      refine ev_inV2 f_X12_sound (nx := 17) (lo2 := [(0, .ref 69), (1, .long w18)]) rfl rfl rfl rfl f_X12_givesLong (hI.wf.s rfl) rfl rfl rfl rfl rfl ?_
      refine ev_loc f_X12_givesLong (nx := 1) rfl rfl rfl rfl ?_
      refine ev_ic f_X12_givesLong (nx := 2) (v := 0) rfl (by decide) rfl ?_
      refine ev_putIT f_X12_givesLong (nx := 5) rfl (hI.wf.s rfl) rfl rfl rfl (hI.put0 (hI.wf.s rfl) rfl rfl) (hX.upI rfl) (fun g19 e19 hI hX => ?_)
      refine ev_loc f_X12_givesLong (nx := 6) rfl rfl rfl rfl ?_
      refine ev_retK1 f_X12_givesLong rfl rfl rfl ?_
      refine ev_jmp f_X12_sound (nx := 26) rfl rfl rfl ?_
      exact ev_ret f_X12_sound rfl rfl rfl ⟨_, _, _, rfl, hI, hX, ⟨_, rfl, (show ∀ D : s_D, t_ME 0 gi D → t_Cb D → ((0 ≤ ar1.toInt ∧ ar1.toInt < D 0) → w18 = s_so D ar1.toNatClampNeg) ∧ (¬ (0 ≤ ar1.toInt ∧ ar1.toInt < D 0) → w18.toInt = -1) from (by
                                                            intro D hm hb
                                                            have h0 : (gi 70 0).toInt = D 0 := hm.1.1.1
                                                            have ka := t_clamp (i := ar1) (by omega)
                                                            have kz := t_clamp (i := z14) (by omega)
                                                            have ki := t_clamp (i := z16) (by omega)
                                                            have hw := s_so_q (g := gi 70) (hm.2.1 ar1.toNatClampNeg (by omega)) e17 (by omega) (by omega) q18.2
                                                            exact ⟨fun _ => hw, fun h => absurd (show _ from ⟨by omega, by omega⟩) h⟩))⟩⟩
noncomputable def wl_e_heard : List (Nat × Nat) := [(69, 2)]
noncomputable def Q_e_heard (gi : Nat → Nat → Int32) (gl : Nat → Nat → Int64) (gr : Nat → Nat → Value) (ar1 : Int32) : Int64 → (Nat → Nat → Int32) → (Nat → Nat → Int64) → (Nat → Nat → Value) → Prop := fun (v : Int64) (gi2 : Nat → Nat → Int32) (gl2 : Nat → Nat → Int64) (gr2 : Nat → Nat → Value) => ∀ D : s_D, t_ME 0 gi D → t_Cb D → ((0 ≤ ar1.toInt ∧ ar1.toInt < D 0) → v = s_hd D ar1.toInt) ∧ (¬ (0 ≤ ar1.toInt ∧ ar1.toInt < D 0) → v.toInt = -1)
theorem c_e_heard {X : x_Ext} {d : Nat} {sh : List (Nat ⊕ (Nat × Nat))} {gi : Nat → Nat → Int32} {gl : Nat → Nat → Int64} {gr : Nat → Nat → Value} (hI : t_I sh gi gr) (ar1 : Int32) : x_Me X (d + 4) n_X12_heard [.ref 69, .int ar1] (sh, gi, gl, gr) (t_PL wl_e_heard sh gi gl gr (Q_e_heard gi gl gr ar1)) := by
  have hX : t_X wl_e_heard sh gi gl gr gi gl gr := t_X.rf
  refine me_i f_X12_heard (hI.wf.s rfl) rfl rfl rfl ?_
  refine ev_loc f_X12_heard (nx := 1) rfl rfl rfl rfl ?_
  refine ev_loc f_X12_heard (nx := 2) rfl rfl rfl rfl ?_
  refine ev_inV2 f_X12_heard (nx := 5) (lo2 := [(0, .ref 69), (1, .int ar1)]) rfl rfl rfl rfl f_X12_isPort (hI.wf.s rfl) rfl rfl rfl rfl rfl ?_
  refine ev_loc f_X12_isPort (nx := 1) rfl rfl rfl rfl ?_
  refine ev_if f_X12_isPort (t1 := 18) (t2 := 4) rfl rfl rfl (fun h1 => ?_) (fun h1 => ?_)
  · have u2 : ar1.toInt ≤ (-1) := t_ltu h1 (by decide : (0:Int32).toInt ≤ (0:Int)) rfl
    refine ev_ic f_X12_isPort (nx := 19) (v := 0) rfl (by decide) rfl ?_
    refine ev_retK1 f_X12_isPort rfl rfl rfl ?_
    refine ev_t f_X12_heard (t1 := 20) (t2 := 8) rfl rfl rfl (by decide) ?_
    refine ev_loc f_X12_heard (nx := 21) rfl rfl rfl rfl ?_
    refine ev_ic f_X12_heard (nx := 22) (v := 1) rfl (by decide) rfl ?_
    refine ev_inV2 f_X12_heard (nx := 25) (lo2 := [(0, .ref 69), (1, .int 1)]) rfl rfl rfl rfl f_X12_refuse (hI.wf.s rfl) rfl rfl rfl rfl rfl ?_
    refine ev_loc f_X12_refuse (nx := 1) rfl rfl rfl rfl ?_
    refine ev_loc f_X12_refuse (nx := 2) rfl rfl rfl rfl ?_
    refine ev_putIT f_X12_refuse (nx := 5) rfl (hI.wf.s rfl) rfl rfl rfl (hI.put0 (hI.wf.s rfl) rfl rfl) (hX.upI rfl) (fun g3 e3 hI hX => ?_)
    refine ev_ic f_X12_refuse (nx := 6) (v := -1) rfl (by decide) rfl ?_
    refine ev_retK1 f_X12_refuse rfl rfl rfl ?_
    refine ev_aluvL f_X12_heard (nx := 26) (w := -1) rfl rfl rfl (by decide) rfl ?_
    exact ev_ret f_X12_heard rfl rfl rfl ⟨_, _, _, rfl, hI, hX, ⟨_, rfl, (show ∀ D : s_D, t_ME 0 gi D → t_Cb D → ((0 ≤ ar1.toInt ∧ ar1.toInt < D 0) → ((-1) : Int64) = s_hd D ar1.toInt) ∧ (¬ (0 ≤ ar1.toInt ∧ ar1.toInt < D 0) → ((-1) : Int64).toInt = -1) from (by
                                                            intro D hm hb
                                                            have h0 : (gi 70 0).toInt = D 0 := hm.1.1.1
                                                            exact ⟨fun h => absurd h (by omega), fun _ => (by decide)⟩))⟩⟩
  · have l4 : 0 ≤ ar1.toInt := t_lel (t_nlt h1) (by decide : (0:Int) ≤ (0:Int32).toInt)
    refine ev_loc f_X12_isPort (nx := 5) rfl rfl rfl rfl ?_
    refine ev_loc f_X12_isPort (nx := 6) rfl rfl rfl rfl ?_
    refine ev_getR f_X12_isPort (nx := 9) rfl (hI.wf.s rfl) rfl rfl (hI.wf.r rfl) rfl rfl ?_
    refine ev_ic f_X12_isPort (nx := 10) (v := 0) rfl (by decide) rfl ?_
    obtain ⟨l5, u5⟩ := hI.ab (by decide +kernel : t_abr 70 0 0 0 6 = true) (Nat.le_refl _) (Nat.le_refl _)
    refine ev_ialdv f_X12_isPort (nx := 11) (w := (gi 70 0)) rfl (hI.wf.s rfl) (by decide) (rfl : (0 : Int32).toNatClampNeg = 0) (by decide) rfl rfl ?_
    refine ev_if f_X12_isPort (t1 := 18) (t2 := 14) rfl rfl rfl (fun h6 => ?_) (fun h6 => ?_)
    · have r7 : (gi 70 0).toInt ≤ ar1.toInt := Int32.le_iff_toInt_le.mp h6
      refine ev_ic f_X12_isPort (nx := 19) (v := 0) rfl (by decide) rfl ?_
      refine ev_retK1 f_X12_isPort rfl rfl rfl ?_
      refine ev_t f_X12_heard (t1 := 20) (t2 := 8) rfl rfl rfl (by decide) ?_
      refine ev_loc f_X12_heard (nx := 21) rfl rfl rfl rfl ?_
      refine ev_ic f_X12_heard (nx := 22) (v := 1) rfl (by decide) rfl ?_
      refine ev_inV2 f_X12_heard (nx := 25) (lo2 := [(0, .ref 69), (1, .int 1)]) rfl rfl rfl rfl f_X12_refuse (hI.wf.s rfl) rfl rfl rfl rfl rfl ?_
      refine ev_loc f_X12_refuse (nx := 1) rfl rfl rfl rfl ?_
      refine ev_loc f_X12_refuse (nx := 2) rfl rfl rfl rfl ?_
      refine ev_putIT f_X12_refuse (nx := 5) rfl (hI.wf.s rfl) rfl rfl rfl (hI.put0 (hI.wf.s rfl) rfl rfl) (hX.upI rfl) (fun g8 e8 hI hX => ?_)
      refine ev_ic f_X12_refuse (nx := 6) (v := -1) rfl (by decide) rfl ?_
      refine ev_retK1 f_X12_refuse rfl rfl rfl ?_
      refine ev_aluvL f_X12_heard (nx := 26) (w := -1) rfl rfl rfl (by decide) rfl ?_
      exact ev_ret f_X12_heard rfl rfl rfl ⟨_, _, _, rfl, hI, hX, ⟨_, rfl, (show ∀ D : s_D, t_ME 0 gi D → t_Cb D → ((0 ≤ ar1.toInt ∧ ar1.toInt < D 0) → ((-1) : Int64) = s_hd D ar1.toInt) ∧ (¬ (0 ≤ ar1.toInt ∧ ar1.toInt < D 0) → ((-1) : Int64).toInt = -1) from (by
                                                            intro D hm hb
                                                            have h0 : (gi 70 0).toInt = D 0 := hm.1.1.1
                                                            exact ⟨fun h => absurd h (by omega), fun _ => (by decide)⟩))⟩⟩
    · have r9 : ar1.toInt < (gi 70 0).toInt := Int32.lt_iff_toInt_lt.mp (t_nle h6)
      have u10 : ar1.toInt ≤ 5 := t_ltu (t_nle h6) u5 rfl
      have l11 : 1 ≤ (gi 70 0).toInt := t_ltl (t_nle h6) l4 rfl
      refine ev_ic f_X12_isPort (nx := 15) (v := 1) rfl (by decide) rfl ?_
      refine ev_jmp f_X12_isPort (nx := 19) rfl rfl rfl ?_
      refine ev_retK1 f_X12_isPort rfl rfl rfl ?_
      refine ev_f f_X12_heard (t1 := 20) (t2 := 8) rfl rfl rfl (by decide) ?_
      refine ev_loc f_X12_heard (nx := 9) rfl rfl rfl rfl ?_
      refine ev_loc f_X12_heard (nx := 10) rfl rfl rfl rfl ?_
      refine ev_loc f_X12_heard (nx := 11) rfl rfl rfl rfl ?_
      refine ev_qL0 f_X12_heard (nx := 14) (r := [.ref 69]) rfl rfl rfl rfl rfl rfl rfl (c_n_heardOf hI (ar1) l4 u10) rfl (fun w12 q12 => ?_)
      have q12 : (0 ≤ w12.toInt ∧ w12.toInt < 8589934592) ∧ ∀ D : s_D, t_ME 0 gi D → ar1.toInt < D 0 → w12 = s_ec (s_so D ar1.toNatClampNeg) (D 7) := q12
      refine ev_inV2 f_X12_heard (nx := 17) (lo2 := [(0, .ref 69), (1, .long w12)]) rfl rfl rfl rfl f_X12_givesLong (hI.wf.s rfl) rfl rfl rfl rfl rfl ?_
      refine ev_loc f_X12_givesLong (nx := 1) rfl rfl rfl rfl ?_
      refine ev_ic f_X12_givesLong (nx := 2) (v := 0) rfl (by decide) rfl ?_
      refine ev_putIT f_X12_givesLong (nx := 5) rfl (hI.wf.s rfl) rfl rfl rfl (hI.put0 (hI.wf.s rfl) rfl rfl) (hX.upI rfl) (fun g13 e13 hI hX => ?_)
      refine ev_loc f_X12_givesLong (nx := 6) rfl rfl rfl rfl ?_
      refine ev_retK1 f_X12_givesLong rfl rfl rfl ?_
      refine ev_jmp f_X12_heard (nx := 26) rfl rfl rfl ?_
      exact ev_ret f_X12_heard rfl rfl rfl ⟨_, _, _, rfl, hI, hX, ⟨_, rfl, (show ∀ D : s_D, t_ME 0 gi D → t_Cb D → ((0 ≤ ar1.toInt ∧ ar1.toInt < D 0) → w12 = s_hd D ar1.toInt) ∧ (¬ (0 ≤ ar1.toInt ∧ ar1.toInt < D 0) → w12.toInt = -1) from (by
                                                            intro D hm hb
                                                            have h0 : (gi 70 0).toInt = D 0 := hm.1.1.1
                                                            refine ⟨fun _ => ?_, fun h => absurd (show _ from ⟨by omega, by omega⟩) h⟩
                                                            exact (q12.2 D hm (by omega)).trans ((s_hd_i (D := D) (p := ar1.toInt) (by omega) (by omega)).trans (by rw [show ar1.toInt.toNat = ar1.toNatClampNeg from (by have := t_clamp (i := ar1) (by omega); omega)])).symm))⟩⟩
noncomputable def wl_e_together : List (Nat × Nat) := [(69, 2)]
noncomputable def Q_e_together (gi : Nat → Nat → Int32) (gl : Nat → Nat → Int64) (gr : Nat → Nat → Value) (ar1 : Int32) (ar2 : Int32) (ar3 : Int32) : Int64 → (Nat → Nat → Int32) → (Nat → Nat → Int64) → (Nat → Nat → Value) → Prop := fun (v : Int64) (gi2 : Nat → Nat → Int32) (gl2 : Nat → Nat → Int64) (gr2 : Nat → Nat → Value) => ∀ D : s_D, t_ME 0 gi D → t_Cb D → ((0 ≤ ar1.toInt ∧ ar1.toInt < D 0 ∧ 0 ≤ ar2.toInt ∧ ar2.toInt < D 0 ∧ 0 ≤ ar3.toInt ∧ ar3.toInt ≤ 12) → v = s_hd D ar1.toInt ||| (s_hd D ar2.toInt <<< (ar3.toInt64 &&& 63))) ∧ (¬ (0 ≤ ar1.toInt ∧ ar1.toInt < D 0 ∧ 0 ≤ ar2.toInt ∧ ar2.toInt < D 0 ∧ 0 ≤ ar3.toInt ∧ ar3.toInt ≤ 12) → v.toInt = -1)
theorem c_e_together {X : x_Ext} {d : Nat} {sh : List (Nat ⊕ (Nat × Nat))} {gi : Nat → Nat → Int32} {gl : Nat → Nat → Int64} {gr : Nat → Nat → Value} (hI : t_I sh gi gr) (ar1 : Int32) (ar2 : Int32) (ar3 : Int32) : x_Me X (d + 4) n_X12_together [.ref 69, .int ar1, .int ar2, .int ar3] (sh, gi, gl, gr) (t_PL wl_e_together sh gi gl gr (Q_e_together gi gl gr ar1 ar2 ar3)) := by
  have hX : t_X wl_e_together sh gi gl gr gi gl gr := t_X.rf
  refine me_i f_X12_together (hI.wf.s rfl) rfl rfl rfl ?_
  refine ev_loc f_X12_together (nx := 1) rfl rfl rfl rfl ?_
  refine ev_loc f_X12_together (nx := 2) rfl rfl rfl rfl ?_
  refine ev_inV2 f_X12_together (nx := 5) (lo2 := [(0, .ref 69), (1, .int ar1)]) rfl rfl rfl rfl f_X12_isPort (hI.wf.s rfl) rfl rfl rfl rfl rfl ?_
  refine ev_loc f_X12_isPort (nx := 1) rfl rfl rfl rfl ?_
  refine ev_if f_X12_isPort (t1 := 18) (t2 := 4) rfl rfl rfl (fun h1 => ?_) (fun h1 => ?_)
  · have u2 : ar1.toInt ≤ (-1) := t_ltu h1 (by decide : (0:Int32).toInt ≤ (0:Int)) rfl
    refine ev_ic f_X12_isPort (nx := 19) (v := 0) rfl (by decide) rfl ?_
    refine ev_retK1 f_X12_isPort rfl rfl rfl ?_
    refine ev_t f_X12_together (t1 := 48) (t2 := 8) rfl rfl rfl (by decide) ?_
    refine ev_loc f_X12_together (nx := 49) rfl rfl rfl rfl ?_
    refine ev_ic f_X12_together (nx := 50) (v := 1) rfl (by decide) rfl ?_
    refine ev_inV2 f_X12_together (nx := 53) (lo2 := [(0, .ref 69), (1, .int 1)]) rfl rfl rfl rfl f_X12_refuse (hI.wf.s rfl) rfl rfl rfl rfl rfl ?_
    refine ev_loc f_X12_refuse (nx := 1) rfl rfl rfl rfl ?_
    refine ev_loc f_X12_refuse (nx := 2) rfl rfl rfl rfl ?_
    refine ev_putIT f_X12_refuse (nx := 5) rfl (hI.wf.s rfl) rfl rfl rfl (hI.put0 (hI.wf.s rfl) rfl rfl) (hX.upI rfl) (fun g3 e3 hI hX => ?_)
    refine ev_ic f_X12_refuse (nx := 6) (v := -1) rfl (by decide) rfl ?_
    refine ev_retK1 f_X12_refuse rfl rfl rfl ?_
    refine ev_aluvL f_X12_together (nx := 54) (w := -1) rfl rfl rfl (by decide) rfl ?_
    exact ev_ret f_X12_together rfl rfl rfl ⟨_, _, _, rfl, hI, hX, ⟨_, rfl, (show ∀ D : s_D, t_ME 0 gi D → t_Cb D → ((0 ≤ ar1.toInt ∧ ar1.toInt < D 0 ∧ 0 ≤ ar2.toInt ∧ ar2.toInt < D 0 ∧ 0 ≤ ar3.toInt ∧ ar3.toInt ≤ 12) → ((-1) : Int64) = s_hd D ar1.toInt ||| (s_hd D ar2.toInt <<< (ar3.toInt64 &&& 63))) ∧ (¬ (0 ≤ ar1.toInt ∧ ar1.toInt < D 0 ∧ 0 ≤ ar2.toInt ∧ ar2.toInt < D 0 ∧ 0 ≤ ar3.toInt ∧ ar3.toInt ≤ 12) → ((-1) : Int64).toInt = -1) from (by
                                                            intro D hm hb
                                                            have h0 : (gi 70 0).toInt = D 0 := hm.1.1.1
                                                            exact ⟨fun h => absurd h (by omega), fun _ => (by decide)⟩))⟩⟩
  · have l4 : 0 ≤ ar1.toInt := t_lel (t_nlt h1) (by decide : (0:Int) ≤ (0:Int32).toInt)
    refine ev_loc f_X12_isPort (nx := 5) rfl rfl rfl rfl ?_
    refine ev_loc f_X12_isPort (nx := 6) rfl rfl rfl rfl ?_
    refine ev_getR f_X12_isPort (nx := 9) rfl (hI.wf.s rfl) rfl rfl (hI.wf.r rfl) rfl rfl ?_
    refine ev_ic f_X12_isPort (nx := 10) (v := 0) rfl (by decide) rfl ?_
    obtain ⟨l5, u5⟩ := hI.ab (by decide +kernel : t_abr 70 0 0 0 6 = true) (Nat.le_refl _) (Nat.le_refl _)
    refine ev_ialdv f_X12_isPort (nx := 11) (w := (gi 70 0)) rfl (hI.wf.s rfl) (by decide) (rfl : (0 : Int32).toNatClampNeg = 0) (by decide) rfl rfl ?_
    refine ev_if f_X12_isPort (t1 := 18) (t2 := 14) rfl rfl rfl (fun h6 => ?_) (fun h6 => ?_)
    · have r7 : (gi 70 0).toInt ≤ ar1.toInt := Int32.le_iff_toInt_le.mp h6
      refine ev_ic f_X12_isPort (nx := 19) (v := 0) rfl (by decide) rfl ?_
      refine ev_retK1 f_X12_isPort rfl rfl rfl ?_
      refine ev_t f_X12_together (t1 := 48) (t2 := 8) rfl rfl rfl (by decide) ?_
      refine ev_loc f_X12_together (nx := 49) rfl rfl rfl rfl ?_
      refine ev_ic f_X12_together (nx := 50) (v := 1) rfl (by decide) rfl ?_
      refine ev_inV2 f_X12_together (nx := 53) (lo2 := [(0, .ref 69), (1, .int 1)]) rfl rfl rfl rfl f_X12_refuse (hI.wf.s rfl) rfl rfl rfl rfl rfl ?_
      refine ev_loc f_X12_refuse (nx := 1) rfl rfl rfl rfl ?_
      refine ev_loc f_X12_refuse (nx := 2) rfl rfl rfl rfl ?_
      refine ev_putIT f_X12_refuse (nx := 5) rfl (hI.wf.s rfl) rfl rfl rfl (hI.put0 (hI.wf.s rfl) rfl rfl) (hX.upI rfl) (fun g8 e8 hI hX => ?_)
      refine ev_ic f_X12_refuse (nx := 6) (v := -1) rfl (by decide) rfl ?_
      refine ev_retK1 f_X12_refuse rfl rfl rfl ?_
      refine ev_aluvL f_X12_together (nx := 54) (w := -1) rfl rfl rfl (by decide) rfl ?_
      exact ev_ret f_X12_together rfl rfl rfl ⟨_, _, _, rfl, hI, hX, ⟨_, rfl, (show ∀ D : s_D, t_ME 0 gi D → t_Cb D → ((0 ≤ ar1.toInt ∧ ar1.toInt < D 0 ∧ 0 ≤ ar2.toInt ∧ ar2.toInt < D 0 ∧ 0 ≤ ar3.toInt ∧ ar3.toInt ≤ 12) → ((-1) : Int64) = s_hd D ar1.toInt ||| (s_hd D ar2.toInt <<< (ar3.toInt64 &&& 63))) ∧ (¬ (0 ≤ ar1.toInt ∧ ar1.toInt < D 0 ∧ 0 ≤ ar2.toInt ∧ ar2.toInt < D 0 ∧ 0 ≤ ar3.toInt ∧ ar3.toInt ≤ 12) → ((-1) : Int64).toInt = -1) from (by
                                                            intro D hm hb
                                                            have h0 : (gi 70 0).toInt = D 0 := hm.1.1.1
                                                            exact ⟨fun h => absurd h (by omega), fun _ => (by decide)⟩))⟩⟩
    · have r9 : ar1.toInt < (gi 70 0).toInt := Int32.lt_iff_toInt_lt.mp (t_nle h6)
      have u10 : ar1.toInt ≤ 5 := t_ltu (t_nle h6) u5 rfl
      have l11 : 1 ≤ (gi 70 0).toInt := t_ltl (t_nle h6) l4 rfl
      refine ev_ic f_X12_isPort (nx := 15) (v := 1) rfl (by decide) rfl ?_
      refine ev_jmp f_X12_isPort (nx := 19) rfl rfl rfl ?_
      refine ev_retK1 f_X12_isPort rfl rfl rfl ?_
      refine ev_f f_X12_together (t1 := 48) (t2 := 8) rfl rfl rfl (by decide) ?_
      refine ev_loc f_X12_together (nx := 9) rfl rfl rfl rfl ?_
      refine ev_loc f_X12_together (nx := 10) rfl rfl rfl rfl ?_
      refine ev_inV2 f_X12_together (nx := 13) (lo2 := [(0, .ref 69), (1, .int ar2)]) rfl rfl rfl rfl f_X12_isPort (hI.wf.s rfl) rfl rfl rfl rfl rfl ?_
      refine ev_loc f_X12_isPort (nx := 1) rfl rfl rfl rfl ?_
      refine ev_if f_X12_isPort (t1 := 18) (t2 := 4) rfl rfl rfl (fun h12 => ?_) (fun h12 => ?_)
      · have u13 : ar2.toInt ≤ (-1) := t_ltu h12 (by decide : (0:Int32).toInt ≤ (0:Int)) rfl
        refine ev_ic f_X12_isPort (nx := 19) (v := 0) rfl (by decide) rfl ?_
        refine ev_retK1 f_X12_isPort rfl rfl rfl ?_
        refine ev_t f_X12_together (t1 := 48) (t2 := 16) rfl rfl rfl (by decide) ?_
        refine ev_loc f_X12_together (nx := 49) rfl rfl rfl rfl ?_
        refine ev_ic f_X12_together (nx := 50) (v := 1) rfl (by decide) rfl ?_
        refine ev_inV2 f_X12_together (nx := 53) (lo2 := [(0, .ref 69), (1, .int 1)]) rfl rfl rfl rfl f_X12_refuse (hI.wf.s rfl) rfl rfl rfl rfl rfl ?_
        refine ev_loc f_X12_refuse (nx := 1) rfl rfl rfl rfl ?_
        refine ev_loc f_X12_refuse (nx := 2) rfl rfl rfl rfl ?_
        refine ev_putIT f_X12_refuse (nx := 5) rfl (hI.wf.s rfl) rfl rfl rfl (hI.put0 (hI.wf.s rfl) rfl rfl) (hX.upI rfl) (fun g14 e14 hI hX => ?_)
        refine ev_ic f_X12_refuse (nx := 6) (v := -1) rfl (by decide) rfl ?_
        refine ev_retK1 f_X12_refuse rfl rfl rfl ?_
        refine ev_aluvL f_X12_together (nx := 54) (w := -1) rfl rfl rfl (by decide) rfl ?_
        exact ev_ret f_X12_together rfl rfl rfl ⟨_, _, _, rfl, hI, hX, ⟨_, rfl, (show ∀ D : s_D, t_ME 0 gi D → t_Cb D → ((0 ≤ ar1.toInt ∧ ar1.toInt < D 0 ∧ 0 ≤ ar2.toInt ∧ ar2.toInt < D 0 ∧ 0 ≤ ar3.toInt ∧ ar3.toInt ≤ 12) → ((-1) : Int64) = s_hd D ar1.toInt ||| (s_hd D ar2.toInt <<< (ar3.toInt64 &&& 63))) ∧ (¬ (0 ≤ ar1.toInt ∧ ar1.toInt < D 0 ∧ 0 ≤ ar2.toInt ∧ ar2.toInt < D 0 ∧ 0 ≤ ar3.toInt ∧ ar3.toInt ≤ 12) → ((-1) : Int64).toInt = -1) from (by
                                                            intro D hm hb
                                                            have h0 : (gi 70 0).toInt = D 0 := hm.1.1.1
                                                            exact ⟨fun h => absurd h (by omega), fun _ => (by decide)⟩))⟩⟩
      · have l15 : 0 ≤ ar2.toInt := t_lel (t_nlt h12) (by decide : (0:Int) ≤ (0:Int32).toInt)
        refine ev_loc f_X12_isPort (nx := 5) rfl rfl rfl rfl ?_
        refine ev_loc f_X12_isPort (nx := 6) rfl rfl rfl rfl ?_
        refine ev_getR f_X12_isPort (nx := 9) rfl (hI.wf.s rfl) rfl rfl (hI.wf.r rfl) rfl rfl ?_
        refine ev_ic f_X12_isPort (nx := 10) (v := 0) rfl (by decide) rfl ?_
        refine ev_ialdv f_X12_isPort (nx := 11) (w := (gi 70 0)) rfl (hI.wf.s rfl) (by decide) (rfl : (0 : Int32).toNatClampNeg = 0) (by decide) rfl rfl ?_
        refine ev_if f_X12_isPort (t1 := 18) (t2 := 14) rfl rfl rfl (fun h17 => ?_) (fun h17 => ?_)
        · have r18 : (gi 70 0).toInt ≤ ar2.toInt := Int32.le_iff_toInt_le.mp h17
          have l19 : 1 ≤ ar2.toInt := t_lel h17 l11
          refine ev_ic f_X12_isPort (nx := 19) (v := 0) rfl (by decide) rfl ?_
          refine ev_retK1 f_X12_isPort rfl rfl rfl ?_
          refine ev_t f_X12_together (t1 := 48) (t2 := 16) rfl rfl rfl (by decide) ?_
          refine ev_loc f_X12_together (nx := 49) rfl rfl rfl rfl ?_
          refine ev_ic f_X12_together (nx := 50) (v := 1) rfl (by decide) rfl ?_
          refine ev_inV2 f_X12_together (nx := 53) (lo2 := [(0, .ref 69), (1, .int 1)]) rfl rfl rfl rfl f_X12_refuse (hI.wf.s rfl) rfl rfl rfl rfl rfl ?_
          refine ev_loc f_X12_refuse (nx := 1) rfl rfl rfl rfl ?_
          refine ev_loc f_X12_refuse (nx := 2) rfl rfl rfl rfl ?_
          refine ev_putIT f_X12_refuse (nx := 5) rfl (hI.wf.s rfl) rfl rfl rfl (hI.put0 (hI.wf.s rfl) rfl rfl) (hX.upI rfl) (fun g20 e20 hI hX => ?_)
          refine ev_ic f_X12_refuse (nx := 6) (v := -1) rfl (by decide) rfl ?_
          refine ev_retK1 f_X12_refuse rfl rfl rfl ?_
          refine ev_aluvL f_X12_together (nx := 54) (w := -1) rfl rfl rfl (by decide) rfl ?_
          exact ev_ret f_X12_together rfl rfl rfl ⟨_, _, _, rfl, hI, hX, ⟨_, rfl, (show ∀ D : s_D, t_ME 0 gi D → t_Cb D → ((0 ≤ ar1.toInt ∧ ar1.toInt < D 0 ∧ 0 ≤ ar2.toInt ∧ ar2.toInt < D 0 ∧ 0 ≤ ar3.toInt ∧ ar3.toInt ≤ 12) → ((-1) : Int64) = s_hd D ar1.toInt ||| (s_hd D ar2.toInt <<< (ar3.toInt64 &&& 63))) ∧ (¬ (0 ≤ ar1.toInt ∧ ar1.toInt < D 0 ∧ 0 ≤ ar2.toInt ∧ ar2.toInt < D 0 ∧ 0 ≤ ar3.toInt ∧ ar3.toInt ≤ 12) → ((-1) : Int64).toInt = -1) from (by
                                                            intro D hm hb
                                                            have h0 : (gi 70 0).toInt = D 0 := hm.1.1.1
                                                            exact ⟨fun h => absurd h (by omega), fun _ => (by decide)⟩))⟩⟩
        · have r21 : ar2.toInt < (gi 70 0).toInt := Int32.lt_iff_toInt_lt.mp (t_nle h17)
          have u22 : ar2.toInt ≤ 5 := t_ltu (t_nle h17) u5 rfl
          refine ev_ic f_X12_isPort (nx := 15) (v := 1) rfl (by decide) rfl ?_
          refine ev_jmp f_X12_isPort (nx := 19) rfl rfl rfl ?_
          refine ev_retK1 f_X12_isPort rfl rfl rfl ?_
          refine ev_f f_X12_together (t1 := 48) (t2 := 16) rfl rfl rfl (by decide) ?_
          refine ev_loc f_X12_together (nx := 17) rfl rfl rfl rfl ?_
          refine ev_anyLE f_X12_together (nx := 18) rfl rfl rfl rfl (fun z23 e23 => ?_)
          have i23 : z23.toInt = ar3.toInt := by rw [e23]; exact Int32.toInt_toInt64 _
          refine ev_lc f_X12_together (nx := 19) (v := 0) rfl (by decide) rfl ?_
          refine ev_ldL f_X12_together (nx := 22) (v := 12) rfl (by decide) rfl ?_
          refine ev_inS3 f_X12_together (nx := 25) (lo2 := [(0, .long z23), (2, .long 0), (4, .long 12)]) rfl rfl rfl rfl f_X12_isFrom rfl rfl rfl rfl ?_
          refine ev_loc f_X12_isFrom (nx := 1) rfl rfl rfl rfl ?_
          refine ev_loc f_X12_isFrom (nx := 2) rfl rfl rfl rfl ?_
          refine ev_anyIE f_X12_isFrom (nx := 3) rfl rfl rfl rfl (fun z24 e24 => ?_)
          refine ev_if f_X12_isFrom (t1 := 17) (t2 := 6) rfl rfl rfl (fun h25 => ?_) (fun h25 => ?_)
          · have u26 : ar3.toInt ≤ ((-1):Int) := Int.le_sub_one_of_lt ((lgc_lt (by decide : (0 : Int64).toInt = 0)).mp (by have hh := h25; rw [e24, e23] at hh; exact hh))
            have u27 : z24.toInt ≤ (-1) := t_ltu h25 (by decide : (0:Int32).toInt ≤ (0:Int)) rfl
            refine ev_ic f_X12_isFrom (nx := 18) (v := 0) rfl (by decide) rfl ?_
            refine ev_retK1 f_X12_isFrom rfl rfl rfl ?_
            refine ev_t f_X12_together (t1 := 48) (t2 := 28) rfl rfl rfl (by decide) ?_
            refine ev_loc f_X12_together (nx := 49) rfl rfl rfl rfl ?_
            refine ev_ic f_X12_together (nx := 50) (v := 1) rfl (by decide) rfl ?_
            refine ev_inV2 f_X12_together (nx := 53) (lo2 := [(0, .ref 69), (1, .int 1)]) rfl rfl rfl rfl f_X12_refuse (hI.wf.s rfl) rfl rfl rfl rfl rfl ?_
            refine ev_loc f_X12_refuse (nx := 1) rfl rfl rfl rfl ?_
            refine ev_loc f_X12_refuse (nx := 2) rfl rfl rfl rfl ?_
            refine ev_putIT f_X12_refuse (nx := 5) rfl (hI.wf.s rfl) rfl rfl rfl (hI.put0 (hI.wf.s rfl) rfl rfl) (hX.upI rfl) (fun g28 e28 hI hX => ?_)
            refine ev_ic f_X12_refuse (nx := 6) (v := -1) rfl (by decide) rfl ?_
            refine ev_retK1 f_X12_refuse rfl rfl rfl ?_
            refine ev_aluvL f_X12_together (nx := 54) (w := -1) rfl rfl rfl (by decide) rfl ?_
            exact ev_ret f_X12_together rfl rfl rfl ⟨_, _, _, rfl, hI, hX, ⟨_, rfl, (show ∀ D : s_D, t_ME 0 gi D → t_Cb D → ((0 ≤ ar1.toInt ∧ ar1.toInt < D 0 ∧ 0 ≤ ar2.toInt ∧ ar2.toInt < D 0 ∧ 0 ≤ ar3.toInt ∧ ar3.toInt ≤ 12) → ((-1) : Int64) = s_hd D ar1.toInt ||| (s_hd D ar2.toInt <<< (ar3.toInt64 &&& 63))) ∧ (¬ (0 ≤ ar1.toInt ∧ ar1.toInt < D 0 ∧ 0 ≤ ar2.toInt ∧ ar2.toInt < D 0 ∧ 0 ≤ ar3.toInt ∧ ar3.toInt ≤ 12) → ((-1) : Int64).toInt = -1) from (by
                                                            intro D hm hb
                                                            have h0 : (gi 70 0).toInt = D 0 := hm.1.1.1
                                                            exact ⟨fun h => absurd h (by omega), fun _ => (by decide)⟩))⟩⟩
          · have l29 : (0:Int) ≤ ar3.toInt := (lgc_ge (by decide : (0 : Int64).toInt = 0)).mp (by have hh := (t_nlt h25); rw [e24, e23] at hh; exact hh)
            have l30 : 0 ≤ z24.toInt := t_lel (t_nlt h25) (by decide : (0:Int) ≤ (0:Int32).toInt)
            refine ev_loc f_X12_isFrom (nx := 7) rfl rfl rfl rfl ?_
            refine ev_loc f_X12_isFrom (nx := 9) rfl rfl rfl rfl ?_
            refine ev_anyIE f_X12_isFrom (nx := 10) rfl rfl rfl rfl (fun z31 e31 => ?_)
            refine ev_if f_X12_isFrom (t1 := 17) (t2 := 13) rfl rfl rfl (fun h32 => ?_) (fun h32 => ?_)
            · have l33 : (13:Int) ≤ ar3.toInt := Int.add_one_le_of_lt ((lgc_gt (by decide : (12 : Int64).toInt = 12)).mp (by have hh := h32; rw [e31, e23] at hh; exact hh))
              have l34 : 1 ≤ z31.toInt := t_ltl h32 (by decide : (0:Int) ≤ (0:Int32).toInt) rfl
              refine ev_ic f_X12_isFrom (nx := 18) (v := 0) rfl (by decide) rfl ?_
              refine ev_retK1 f_X12_isFrom rfl rfl rfl ?_
              refine ev_t f_X12_together (t1 := 48) (t2 := 28) rfl rfl rfl (by decide) ?_
              refine ev_loc f_X12_together (nx := 49) rfl rfl rfl rfl ?_
              refine ev_ic f_X12_together (nx := 50) (v := 1) rfl (by decide) rfl ?_
              refine ev_inV2 f_X12_together (nx := 53) (lo2 := [(0, .ref 69), (1, .int 1)]) rfl rfl rfl rfl f_X12_refuse (hI.wf.s rfl) rfl rfl rfl rfl rfl ?_
              refine ev_loc f_X12_refuse (nx := 1) rfl rfl rfl rfl ?_
              refine ev_loc f_X12_refuse (nx := 2) rfl rfl rfl rfl ?_
              refine ev_putIT f_X12_refuse (nx := 5) rfl (hI.wf.s rfl) rfl rfl rfl (hI.put0 (hI.wf.s rfl) rfl rfl) (hX.upI rfl) (fun g35 e35 hI hX => ?_)
              refine ev_ic f_X12_refuse (nx := 6) (v := -1) rfl (by decide) rfl ?_
              refine ev_retK1 f_X12_refuse rfl rfl rfl ?_
              refine ev_aluvL f_X12_together (nx := 54) (w := -1) rfl rfl rfl (by decide) rfl ?_
              exact ev_ret f_X12_together rfl rfl rfl ⟨_, _, _, rfl, hI, hX, ⟨_, rfl, (show ∀ D : s_D, t_ME 0 gi D → t_Cb D → ((0 ≤ ar1.toInt ∧ ar1.toInt < D 0 ∧ 0 ≤ ar2.toInt ∧ ar2.toInt < D 0 ∧ 0 ≤ ar3.toInt ∧ ar3.toInt ≤ 12) → ((-1) : Int64) = s_hd D ar1.toInt ||| (s_hd D ar2.toInt <<< (ar3.toInt64 &&& 63))) ∧ (¬ (0 ≤ ar1.toInt ∧ ar1.toInt < D 0 ∧ 0 ≤ ar2.toInt ∧ ar2.toInt < D 0 ∧ 0 ≤ ar3.toInt ∧ ar3.toInt ≤ 12) → ((-1) : Int64).toInt = -1) from (by
                                                            intro D hm hb
                                                            have h0 : (gi 70 0).toInt = D 0 := hm.1.1.1
                                                            exact ⟨fun h => absurd h (by omega), fun _ => (by decide)⟩))⟩⟩
            · have u36 : ar3.toInt ≤ (12:Int) := (lgc_le (by decide : (12 : Int64).toInt = 12)).mp (by have hh := (t_nlt h32); rw [e31, e23] at hh; exact hh)
              have u37 : z31.toInt ≤ 0 := t_leu (t_nlt h32) (by decide : (0:Int32).toInt ≤ (0:Int))
              refine ev_ic f_X12_isFrom (nx := 14) (v := 1) rfl (by decide) rfl ?_
              refine ev_jmp f_X12_isFrom (nx := 18) rfl rfl rfl ?_
              refine ev_retK1 f_X12_isFrom rfl rfl rfl ?_
              refine ev_f f_X12_together (t1 := 48) (t2 := 28) rfl rfl rfl (by decide) ?_
              refine ev_loc f_X12_together (nx := 29) rfl rfl rfl rfl ?_
              refine ev_loc f_X12_together (nx := 30) rfl rfl rfl rfl ?_
              refine ev_loc f_X12_together (nx := 31) rfl rfl rfl rfl ?_
              refine ev_qL0 f_X12_together (nx := 34) (r := [.ref 69]) rfl rfl rfl rfl rfl rfl rfl (c_n_heardOf hI (ar1) l4 u10) rfl (fun w38 q38 => ?_)
              have q38 : (0 ≤ w38.toInt ∧ w38.toInt < 8589934592) ∧ ∀ D : s_D, t_ME 0 gi D → ar1.toInt < D 0 → w38 = s_ec (s_so D ar1.toNatClampNeg) (D 7) := q38
              refine ev_loc f_X12_together (nx := 35) rfl rfl rfl rfl ?_
              refine ev_loc f_X12_together (nx := 36) rfl rfl rfl rfl ?_
              refine ev_qL0 f_X12_together (nx := 39) (r := [.long w38, .ref 69]) rfl rfl rfl rfl rfl rfl rfl (c_n_heardOf hI (ar2) l15 u22) rfl (fun w39 q39 => ?_)
              have q39 : (0 ≤ w39.toInt ∧ w39.toInt < 8589934592) ∧ ∀ D : s_D, t_ME 0 gi D → ar2.toInt < D 0 → w39 = s_ec (s_so D ar2.toNatClampNeg) (D 7) := q39
              refine ev_loc f_X12_together (nx := 40) rfl rfl rfl rfl ?_
              refine ev_anyLE f_X12_together (nx := 41) rfl rfl rfl rfl (fun z40 e40 => ?_)
              refine ev_anyLE f_X12_together (nx := 42) rfl rfl rfl rfl (fun z41 e41 => ?_)
              refine ev_inV2 f_X12_together (nx := 45) (lo2 := [(0, .ref 69), (1, .long z41)]) rfl rfl rfl rfl f_X12_givesLong (hI.wf.s rfl) rfl rfl rfl rfl rfl ?_
              refine ev_loc f_X12_givesLong (nx := 1) rfl rfl rfl rfl ?_
              refine ev_ic f_X12_givesLong (nx := 2) (v := 0) rfl (by decide) rfl ?_
              refine ev_putIT f_X12_givesLong (nx := 5) rfl (hI.wf.s rfl) rfl rfl rfl (hI.put0 (hI.wf.s rfl) rfl rfl) (hX.upI rfl) (fun g42 e42 hI hX => ?_)
              refine ev_loc f_X12_givesLong (nx := 6) rfl rfl rfl rfl ?_
              refine ev_retK1 f_X12_givesLong rfl rfl rfl ?_
              refine ev_jmp f_X12_together (nx := 54) rfl rfl rfl ?_
              exact ev_ret f_X12_together rfl rfl rfl ⟨_, _, _, rfl, hI, hX, ⟨_, rfl, (show ∀ D : s_D, t_ME 0 gi D → t_Cb D → ((0 ≤ ar1.toInt ∧ ar1.toInt < D 0 ∧ 0 ≤ ar2.toInt ∧ ar2.toInt < D 0 ∧ 0 ≤ ar3.toInt ∧ ar3.toInt ≤ 12) → z41 = s_hd D ar1.toInt ||| (s_hd D ar2.toInt <<< (ar3.toInt64 &&& 63))) ∧ (¬ (0 ≤ ar1.toInt ∧ ar1.toInt < D 0 ∧ 0 ≤ ar2.toInt ∧ ar2.toInt < D 0 ∧ 0 ≤ ar3.toInt ∧ ar3.toInt ≤ 12) → z41.toInt = -1) from (by
                                                            intro D hm hb
                                                            have h0 : (gi 70 0).toInt = D 0 := hm.1.1.1
                                                            refine ⟨fun _ => ?_, fun h => absurd (show _ from ⟨by omega, by omega, by omega, by omega, by omega, by omega⟩) h⟩
                                                            rw [e41, e40, (q38.2 D hm (by omega)).trans ((s_hd_i (D := D) (p := ar1.toInt) (by omega) (by omega)).trans (by rw [show ar1.toInt.toNat = ar1.toNatClampNeg from (by have := t_clamp (i := ar1) (by omega); omega)])).symm, (q39.2 D hm (by omega)).trans ((s_hd_i (D := D) (p := ar2.toInt) (by omega) (by omega)).trans (by rw [show ar2.toInt.toNat = ar2.toNatClampNeg from (by have := t_clamp (i := ar2) (by omega); omega)])).symm]))⟩⟩
/-! ===== SOUND, HEARD: the answers are alike ===== -/
section SNDL
variable {sh : List (Nat ⊕ (Nat × Nat))} {gi g1 g2 : Nat → Nat → Int32} {gl l1 l2 : Nat → Nat → Int64} {gr r1 r2 : Nat → Nat → Value} {w1 : List (Nat × Nat)} {A A2 A3 : Int32} {x1 x2 : Int64}
theorem t_L_sound (hD : t_DR sh.length gi gl gr) (f1 : t_F w1 gi gl gr g1 l1 r1) (h70 : t_nc w1 70 = true) (q1 : Q_d_sound gi gl gr A x1 g1 l1 r1) (q2 : Q_e_sound g1 l1 r1 A x2 g2 l2 r2) : x1 = x2 := by
  obtain ⟨u, D, hu, hl, hc, hb, hm, -⟩ := t_D_0 hD f1 h70
  have k1 := q1 u D hu hl hc hb
  have k2 := q2 D hm hb
  by_cases hin : 0 ≤ A.toInt ∧ A.toInt < D 0
  · rw [k1.1 hin, k2.1 hin]
  · apply Int64.toInt_inj.mp; rw [k1.2 hin, k2.2 hin]
theorem t_L_heard (hD : t_DR sh.length gi gl gr) (f1 : t_F w1 gi gl gr g1 l1 r1) (h70 : t_nc w1 70 = true) (q1 : Q_d_heard gi gl gr A x1 g1 l1 r1) (q2 : Q_e_heard g1 l1 r1 A x2 g2 l2 r2) : x1 = x2 := by
  obtain ⟨u, D, hu, hl, hc, hb, hm, -⟩ := t_D_0 hD f1 h70
  have k1 := q1 u D hu hl hc hb
  have k2 := q2 D hm hb
  by_cases hin : 0 ≤ A.toInt ∧ A.toInt < D 0
  · rw [k1.1 hin, k2.1 hin]
  · apply Int64.toInt_inj.mp; rw [k1.2 hin, k2.2 hin]
theorem t_L_together (hD : t_DR sh.length gi gl gr) (f1 : t_F w1 gi gl gr g1 l1 r1) (h70 : t_nc w1 70 = true) (q1 : Q_d_together gi gl gr A A2 A3 x1 g1 l1 r1) (q2 : Q_e_together g1 l1 r1 A A2 A3 x2 g2 l2 r2) : x1 = x2 := by
  obtain ⟨u, D, hu, hl, hc, hb, hm, -⟩ := t_D_0 hD f1 h70
  have k1 := q1 u D hu hl hc hb
  have k2 := q2 D hm hb
  by_cases hin : 0 ≤ A.toInt ∧ A.toInt < D 0 ∧ 0 ≤ A2.toInt ∧ A2.toInt < D 0 ∧ 0 ≤ A3.toInt ∧ A3.toInt ≤ 12
  · rw [k1.1 hin, k2.1 hin]
  · apply Int64.toInt_inj.mp; rw [k1.2 hin, k2.2 hin]
end SNDL
