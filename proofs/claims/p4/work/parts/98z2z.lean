/-! ===== printed by riv.py: rules() behind its making ===== -/
noncomputable def wl_u_rulesT : List (Nat × Nat) := [(0, 0), (0, 5), (0, 7), (0, 8), (0, 9), (116, 0), (116, 3), (117, 2), (118, 2), (118, 3), (118, 4), (118, 5), (118, 6), (118, 7), (118, 8), (118, 9), (118, 10), (118, 11), (130, 9999)]
noncomputable def Q_u_rulesT (gi : Nat → Nat → Int32) (gl : Nat → Nat → Int64) (gr : Nat → Nat → Value) (ar1 : Int32) (ar2 : Nat) : Int32 → (Nat → Nat → Int32) → (Nat → Nat → Int64) → (Nat → Nat → Value) → Prop := fun (v : Int32) (gi2 : Nat → Nat → Int32) (gl2 : Nat → Nat → Int64) (gr2 : Nat → Nat → Value) => (∀ (b : Nat → Int32) (n : Nat), t_US b n 0 0 gi gl gr ar2 → (gi (ar2 + 2) 0).toInt = 0 → (∃ r : Nat, s_rls b n 301 0 0 0 = ((0, 0), r) ∧ v.toInt = (r : Int) ∧ (gi2 0 8).toInt = 0 ∧ (gi2 0 9).toInt = -1 ∧ gr2 0 6 = gr 0 6 ∧ gr2 0 7 = .ref (ar2 + 2) ∧ (gi2 (ar2 + 2) 0).toInt = (r : Int)) ∨ (∃ p x, x ≠ 0 ∧ s_rls b n 301 0 0 0 = ((s_qb b n p x).1, 0) ∧ v.toInt = -1 ∧ (gi2 0 8).toInt = s_fk b n p x ∧ (gi2 0 9).toInt = (s_F b n p : Nat) ∧ gr2 0 6 = gr 0 6 ∧ gr2 0 7 = gr 0 7)) ∧ t_l0 ar2 gi gl gr gi2 gl2 gr2
theorem c_u_rulesT {X : x_Ext} {d : Nat} {sh : List (Nat ⊕ (Nat × Nat))} {gi : Nat → Nat → Int32} {gl : Nat → Nat → Int64} {gr : Nat → Nat → Value} (hI : t_I sh gi gr) (ar1 : Int32) (ar2 : Nat) (p_a2 : t_UQ sh gr ar2) : x_Ev X (d + 66) n_X11_rules 53 [(0, .ref 0), (1, .int ar1), (2, .ref ar2)] [] (sh, gi, gl, gr) (t_PI wl_u_rulesT sh gi gl gr (-1) 12 (Q_u_rulesT gi gl gr ar1 ar2)) := by
  have hX : t_X wl_u_rulesT sh gi gl gr gi gl gr := t_X.rf
  refine ev_loc f_X11_rules (nx := 54) rfl rfl rfl rfl ?_
  refine ev_qI f_X11_rules (nx := 57) (r := []) rfl rfl rfl rfl rfl rfl rfl (c_u_rulesAll hI (ar2) p_a2) rfl hX rfl (fun w3 gi3 gl3 gr3 l3 u3 hI hX hC3 q3 => ?_)
  have q3 : (∀ (b : Nat → Int32) (n q c : Nat), t_US b n q c gi gl gr ar2 → (gi (ar2 + 2) 0).toInt = 0 → (w3.toInt = 1 ∧ ∃ r : Nat, s_rls b n 301 q c 0 = ((0, 0), r) ∧ (gi3 (ar2 + 2) 0).toInt = (r : Int) ∧ t_FL gi3 (ar2 + 1) 0 (-1)) ∨ (w3.toInt = 0 ∧ ∃ p x, x ≠ 0 ∧ s_rls b n 301 q c 0 = ((s_qb b n p x).1, 0) ∧ t_FL gi3 (ar2 + 1) (s_fk b n p x) (s_F b n p))) ∧ t_lq ar2 gi gl gr gi3 gl3 gr3 := q3
  replace p_a2 := p_a2.ext hC3.2
  refine ev_loc f_X11_rules (nx := 58) (lo' := [(3, .int w3), (0, .ref 0), (1, .int ar1), (2, .ref ar2)]) rfl rfl rfl rfl ?_
  refine ev_loc f_X11_rules (nx := 59) rfl rfl rfl rfl ?_
  refine ev_loc f_X11_rules (nx := 60) rfl rfl rfl rfl ?_
  have e4 := p_a2.2.2.1.1
  have p4 := p_a2.2.2.1.2
  refine ev_getR f_X11_rules (nx := 63) rfl p_a2.1 rfl rfl e4 rfl rfl ?_
  refine ev_inV2 f_X11_rules (nx := 66) (lo2 := [(0, .ref 0), (1, .ref (ar2 + 1))]) rfl rfl rfl rfl f_X11_endText (hI.wf.s rfl) rfl rfl rfl rfl rfl ?_
  refine ev_loc f_X11_endText (nx := 1) rfl rfl rfl rfl ?_
  refine ev_ic f_X11_endText (nx := 2) (v := 0) rfl (by decide) rfl ?_
  refine ev_putIT f_X11_endText (nx := 5) rfl (hI.wf.s rfl) rfl rfl rfl (hI.putB (hI.wf.s rfl) rfl rfl (by decide : (0:Int) ≤ (0:Int32).toInt) (by decide) (by decide : (0:Int32).toInt ≤ (0:Int)) (by decide)) (hX.upI rfl) (fun g5 e5 hI hX => ?_)
  refine ev_loc f_X11_endText (nx := 6) rfl rfl rfl rfl ?_
  refine ev_loc f_X11_endText (nx := 7) rfl rfl rfl rfl ?_
  refine ev_getI f_X11_endText (nx := 10) rfl p4.1 rfl rfl rfl ?_
  refine ev_putIT f_X11_endText (nx := 13) rfl (hI.wf.s rfl) rfl rfl rfl (hI.put0 (hI.wf.s rfl) rfl rfl) (hX.upI rfl) (fun g6 e6 hI hX => ?_)
  refine ev_loc f_X11_endText (nx := 14) rfl rfl rfl rfl ?_
  refine ev_loc f_X11_endText (nx := 15) rfl rfl rfl rfl ?_
  refine ev_getI f_X11_endText (nx := 18) rfl p4.1 rfl rfl rfl ?_
  refine ev_putIT f_X11_endText (nx := 21) rfl (hI.wf.s rfl) rfl rfl rfl (hI.put0 (hI.wf.s rfl) rfl rfl) (hX.upI rfl) (fun g7 e7 hI hX => ?_)
  refine ev_retK0 f_X11_endText rfl rfl rfl ?_
  refine ev_loc f_X11_rules (nx := 67) rfl rfl rfl rfl ?_
  refine ev_if f_X11_rules (t1 := 70) (t2 := 77) rfl rfl rfl (fun h8 => ?_) (fun h8 => ?_)
  · have u9 : w3.toInt ≤ 0 := t_equ h8 (by decide : (0:Int32).toInt ≤ (0:Int))
    refine ev_loc f_X11_rules (nx := 71) rfl rfl rfl rfl ?_
    refine ev_bp f_X11_rules (nx := 73) (v := 9) rfl (by decide) rfl ?_
    refine ev_inV2 f_X11_rules (nx := 76) (lo2 := [(0, .ref 0), (1, .int 9)]) rfl rfl rfl rfl f_X11_refuse (hI.wf.s rfl) rfl rfl rfl rfl rfl ?_
    refine ev_loc f_X11_refuse (nx := 1) rfl rfl rfl rfl ?_
    refine ev_loc f_X11_refuse (nx := 2) rfl rfl rfl rfl ?_
    refine ev_putIT f_X11_refuse (nx := 5) rfl (hI.wf.s rfl) rfl rfl rfl (hI.put0 (hI.wf.s rfl) rfl rfl) (hX.upI rfl) (fun g10 e10 hI hX => ?_)
    refine ev_ic f_X11_refuse (nx := 6) (v := -1) rfl (by decide) rfl ?_
    refine ev_retK1 f_X11_refuse rfl rfl rfl ?_
    exact ev_ret f_X11_rules rfl rfl rfl ⟨_, _, _, rfl, hI, hX, ⟨_, rfl, (by decide : ((-1):Int) ≤ ((-1):Int32).toInt), (Int.le_trans (by decide : ((-1):Int32).toInt ≤ ((-1):Int)) (by decide : ((-1):Int) ≤ 12)), (show (∀ (b : Nat → Int32) (n : Nat), t_US b n 0 0 gi gl gr ar2 → (gi (ar2 + 2) 0).toInt = 0 → (∃ r : Nat, s_rls b n 301 0 0 0 = ((0, 0), r) ∧ ((-1) : Int) = (r : Int) ∧ (g10 0 8).toInt = 0 ∧ (g10 0 9).toInt = -1 ∧ gr3 0 6 = gr 0 6 ∧ gr3 0 7 = .ref (ar2 + 2) ∧ (g10 (ar2 + 2) 0).toInt = (r : Int)) ∨ (∃ p x, x ≠ 0 ∧ s_rls b n 301 0 0 0 = ((s_qb b n p x).1, 0) ∧ ((-1) : Int) = -1 ∧ (g10 0 8).toInt = s_fk b n p x ∧ (g10 0 9).toInt = (s_F b n p : Nat) ∧ gr3 0 6 = gr 0 6 ∧ gr3 0 7 = gr 0 7)) ∧ t_l0 ar2 gi gl gr g10 gl3 gr3 from ⟨(by
                                                            intro b n h h0
                                                            have h102 := p_a2.2.1
                                                            obtain ⟨_, p, x, hx, hX, hf⟩ := (q3.1 b n 0 0 h h0).resolve_left (fun hh => absurd hh.1 (by omega))
                                                            refine Or.inr ⟨p, x, hx, hX, rfl, ?_, ?_, ?_, ?_⟩
                                                            · refine (congrArg Int32.toInt ((by rw [e10]; exact x_up2_off (Or.inr (by decide)) : g10 0 8 = g7 0 8).trans ((by rw [e7]; exact x_up2_off (Or.inr (by decide)) : g7 0 8 = g6 0 8).trans (by rw [e6]; exact x_up2_at _ _ _ _ : g6 0 8 = (g5 (ar2 + 1) 10))))).trans ?_; rw [e5, x_up2_ne (by omega)]; exact hf.1
                                                            · refine (congrArg Int32.toInt ((by rw [e10]; exact x_up2_off (Or.inr (by decide)) : g10 0 9 = g7 0 9).trans (by rw [e7]; exact x_up2_at _ _ _ _ : g7 0 9 = (g6 (ar2 + 1) 11)))).trans ?_; rw [e6, x_up2_ne (by omega), e5, x_up2_ne (by omega)]; exact hf.2
                                                            · exact (hC3.1 0 6 rfl).2.2
                                                            · exact (hC3.1 0 7 rfl).2.2), (fun K k0 hK => have q9 := q3.2 K hK; ⟨by rw [e10, x_up2_ne k0, e7, x_up2_ne k0, e6, x_up2_ne k0, e5, x_up2_ne k0]; exact q9.1, q9.2.1, q9.2.2⟩)⟩)⟩⟩
  · have r11 : w3.toInt ≠ 0 := fun e => h8 (Int32.toInt_inj.mp (e.trans (by decide : (0:Int) = (0 : Int32).toInt)))
    have l12 : 1 ≤ w3.toInt := t_nel h8 l3 rfl rfl
    refine ev_loc f_X11_rules (nx := 78) rfl rfl rfl rfl ?_
    refine ev_loc f_X11_rules (nx := 79) rfl rfl rfl rfl ?_
    have e13 := p_a2.2.2.2.1
    have p13 := p_a2.2.2.2.2
    refine ev_getR f_X11_rules (nx := 82) rfl p_a2.1 rfl rfl e13 rfl rfl ?_
    have hE14 := t_eqf_up (gr := gr3) (j := 7) (v := .ref (ar2 + 2)) (hI.wf.s (k := 0) rfl) rfl
    have hT14 := t_putRules hI (v := .ref (ar2 + 2)) (Or.inr ⟨_, rfl, p13⟩)
    replace p_a2 := p_a2.ext hE14
    replace p4 := p4.ext hE14
    replace p13 := p13.ext hE14
    refine ev_putRT f_X11_rules (nx := 85) rfl (hI.wf.s rfl) rfl rfl rfl rfl hT14 (hX.upR rfl hE14) (fun g14 e14 hI hX => ?_)
    rw [← e14] at p_a2
    rw [← e14] at p4
    rw [← e14] at p13
    refine ev_loc f_X11_rules (nx := 86) rfl rfl rfl rfl ?_
    refine ev_loc f_X11_rules (nx := 87) rfl rfl rfl rfl ?_
    refine ev_getR f_X11_rules (nx := 90) (v := .ref (ar2 + 2)) rfl (hI.wf.s rfl) rfl rfl (by rw [e14]; exact x_up2_at _ _ _ _ : g14 0 7 = .ref (ar2 + 2)) rfl rfl ?_
    refine ev_getI f_X11_rules (nx := 93) rfl p13.1 rfl rfl rfl ?_
    obtain ⟨l15, u15⟩ := hI.b p13.1 (t_bdK rfl : t_bd 6 0 = some (0, 12))
    refine ev_inV2 f_X11_rules (nx := 96) (lo2 := [(0, .ref 0), (1, .int (g7 (ar2 + 2) 0))]) rfl rfl rfl rfl f_X11_answer (hI.wf.s rfl) rfl rfl rfl rfl rfl ?_
    refine ev_loc f_X11_answer (nx := 1) rfl rfl rfl rfl ?_
    refine ev_ic f_X11_answer (nx := 2) (v := 0) rfl (by decide) rfl ?_
    refine ev_putIT f_X11_answer (nx := 5) rfl (hI.wf.s rfl) rfl rfl rfl (hI.put0 (hI.wf.s rfl) rfl rfl) (hX.upI rfl) (fun g16 e16 hI hX => ?_)
    refine ev_loc f_X11_answer (nx := 6) rfl rfl rfl rfl ?_
    refine ev_retK1 f_X11_answer rfl rfl rfl ?_
    exact ev_ret f_X11_rules rfl rfl rfl ⟨_, _, _, rfl, hI, hX, ⟨_, rfl, (Int.le_trans (by decide : ((-1):Int) ≤ 0) l15), u15, (show (∀ (b : Nat → Int32) (n : Nat), t_US b n 0 0 gi gl gr ar2 → (gi (ar2 + 2) 0).toInt = 0 → (∃ r : Nat, s_rls b n 301 0 0 0 = ((0, 0), r) ∧ (g7 (ar2 + 2) 0).toInt = (r : Int) ∧ (g16 0 8).toInt = 0 ∧ (g16 0 9).toInt = -1 ∧ g14 0 6 = gr 0 6 ∧ g14 0 7 = .ref (ar2 + 2) ∧ (g16 (ar2 + 2) 0).toInt = (r : Int)) ∨ (∃ p x, x ≠ 0 ∧ s_rls b n 301 0 0 0 = ((s_qb b n p x).1, 0) ∧ (g7 (ar2 + 2) 0).toInt = -1 ∧ (g16 0 8).toInt = s_fk b n p x ∧ (g16 0 9).toInt = (s_F b n p : Nat) ∧ g14 0 6 = gr 0 6 ∧ g14 0 7 = gr 0 7)) ∧ t_l0 ar2 gi gl gr g16 gl3 g14 from ⟨(by
                                                            intro b n h h0
                                                            have h102 := p_a2.2.1
                                                            obtain ⟨_, r, hX, hm, hf⟩ := (q3.1 b n 0 0 h h0).resolve_right (fun hh => absurd hh.1 (by omega))
                                                            refine Or.inl ⟨r, hX, ?_, ?_, ?_, ?_, (by rw [e14]; exact x_up2_at _ _ _ _ : g14 0 7 = .ref (ar2 + 2)), ?_⟩
                                                            · rw [e7, x_up2_ne (by omega), e6, x_up2_ne (by omega), e5, x_up2_ne (by omega)]; exact hm
                                                            · refine (congrArg Int32.toInt ((by rw [e16]; exact x_up2_off (Or.inr (by decide)) : g16 0 8 = g7 0 8).trans ((by rw [e7]; exact x_up2_off (Or.inr (by decide)) : g7 0 8 = g6 0 8).trans (by rw [e6]; exact x_up2_at _ _ _ _ : g6 0 8 = (g5 (ar2 + 1) 10))))).trans ?_; rw [e5, x_up2_ne (by omega)]; exact hf.1
                                                            · refine (congrArg Int32.toInt ((by rw [e16]; exact x_up2_off (Or.inr (by decide)) : g16 0 9 = g7 0 9).trans (by rw [e7]; exact x_up2_at _ _ _ _ : g7 0 9 = (g6 (ar2 + 1) 11)))).trans ?_; rw [e6, x_up2_ne (by omega), e5, x_up2_ne (by omega)]; exact hf.2
                                                            · rw [e14, x_up2_off (Or.inr (by decide))]; exact (hC3.1 0 6 rfl).2.2
                                                            · rw [e16, x_up2_ne (by omega), e7, x_up2_ne (by omega), e6, x_up2_ne (by omega), e5, x_up2_ne (by omega)]; exact hm), (fun K k0 hK => have q9 := q3.2 K hK; ⟨by rw [e16, x_up2_ne k0, e7, x_up2_ne k0, e6, x_up2_ne k0, e5, x_up2_ne k0]; exact q9.1, q9.2.1, by rw [e14, x_up2_ne k0]; exact q9.2.2⟩)⟩)⟩⟩
/-! ===== printed by riv.py: rules(), its reader made ===== -/
noncomputable def t_RSR (gi : Nat → Nat → Int32) (gl : Nat → Nat → Int64) (gr : Nat → Nat → Value) (N : Nat) (b : Nat → Int32) (n : Nat) (x : Int32) (g : Nat → Nat → Int32) (l : Nat → Nat → Int64) (r : Nat → Nat → Value) : Prop := ((∃ k : Nat, s_rls b n 301 0 0 0 = ((0, 0), k) ∧ x.toInt = (k : Int) ∧ (g 0 8).toInt = 0 ∧ (g 0 9).toInt = -1 ∧ r 0 6 = gr 0 6 ∧ r 0 7 = .ref (N + 2) ∧ (g (N + 2) 0).toInt = (k : Int)) ∨ (∃ p x2, x2 ≠ 0 ∧ s_rls b n 301 0 0 0 = ((s_qb b n p x2).1, 0) ∧ x.toInt = -1 ∧ (g 0 8).toInt = s_fk b n p x2 ∧ (g 0 9).toInt = (s_F b n p : Nat) ∧ r 0 6 = gr 0 6 ∧ r 0 7 = gr 0 7)) ∧ t_l0 N gi gl gr g l r
set_option maxHeartbeats 4000000 in
theorem c_u_rules {X : x_Ext} {d : Nat} {sh : List (Nat ⊕ (Nat × Nat))} {gi : Nat → Nat → Int32} {gl : Nat → Nat → Int64} {gr : Nat → Nat → Value} (hI : t_I sh gi gr) (hH : t_H sh) (ar1 : Int32) : x_Me X (d + 70) n_X11_rules [.ref 0, .int ar1] (sh, gi, gl, gr) (fun v G1 => ∃ sh1 g l r x, G1 = (sh1, g, l, r) ∧ v = some (.int x) ∧ ((0 ≤ ar1.toInt ∧ ar1.toInt ≤ (gi 0 5).toInt ∧ ar1.toInt ≤ 300) → ∀ n : Nat, (n : Int) = ar1.toInt → t_RSR gi gl gr sh.length (gi 2) n x g l r) ∧ (¬ (0 ≤ ar1.toInt ∧ ar1.toInt ≤ (gi 0 5).toInt ∧ ar1.toInt ≤ 300) → x.toInt = -1 ∧ (∀ K, K ≠ 0 → g K = gi K ∧ l K = gl K ∧ r K = gr K) ∧ r 0 6 = gr 0 6 ∧ r 0 7 = gr 0 7)) := by
  have hb0 := hI.b (hI.wf.s (k := 0) rfl) (t_bdK rfl : t_bd 10 5 = some (0, 900))
  refine me_i f_X11_rules (hI.wf.s rfl) rfl rfl rfl ?_
  refine ev_loc f_X11_rules (nx := 1) rfl rfl rfl rfl ?_
  refine ev_if f_X11_rules (t1 := 19) (t2 := 4) rfl rfl rfl (fun h1 => ?_) (fun h1 => ?_)
  · have h1 := Int32.lt_iff_toInt_lt.mp h1; have kf0 : (0 : Int32).toInt = 0 := (by decide); refine x_Ev.mono (x_Ev.up (c_t_rulesN (d := d) hI ar1) (by omega)) ?_; rintro v G1 ⟨g1, l1, r1, rfl, k1, k2, x, rfl, -, -, k3⟩; exact ⟨sh, g1, l1, r1, x, rfl, rfl, fun hi => absurd hi (by omega), fun _ => ⟨k3, fun K hK => t_row0 k2 rfl hK, (k2.1 0 6 rfl).2.2, (k2.1 0 7 rfl).2.2⟩⟩
  have h1 := Int32.le_iff_toInt_le.mp (t_nlt h1); have kf0 : (0 : Int32).toInt = 0 := (by decide)
  refine ev_loc f_X11_rules (nx := 5) rfl rfl rfl rfl ?_
  refine ev_loc f_X11_rules (nx := 6) rfl rfl rfl rfl ?_
  refine ev_getI f_X11_rules (nx := 9) rfl (hI.wf.s rfl) rfl rfl rfl ?_
  refine ev_if f_X11_rules (t1 := 19) (t2 := 12) rfl rfl rfl (fun h2 => ?_) (fun h2 => ?_)
  · have h2 := Int32.lt_iff_toInt_lt.mp h2; refine x_Ev.mono (x_Ev.up (c_t_rulesN (d := d) hI ar1) (by omega)) ?_; rintro v G1 ⟨g1, l1, r1, rfl, k1, k2, x, rfl, -, -, k3⟩; exact ⟨sh, g1, l1, r1, x, rfl, rfl, fun hi => absurd hi (by omega), fun _ => ⟨k3, fun K hK => t_row0 k2 rfl hK, (k2.1 0 6 rfl).2.2, (k2.1 0 7 rfl).2.2⟩⟩
  have h2 := Int32.le_iff_toInt_le.mp (t_nlt h2)
  refine ev_loc f_X11_rules (nx := 13) rfl rfl rfl rfl ?_
  refine ev_sp f_X11_rules (nx := 16) (v := 300) rfl (by decide) rfl ?_
  refine ev_if f_X11_rules (t1 := 25) (t2 := 19) rfl rfl rfl (fun h3 => ?_) (fun h3 => ?_)
  rotate_left
  · have h3 := Int32.lt_iff_toInt_lt.mp (t_nle h3); have kf1 : (300 : Int32).toInt = 300 := (by decide); refine x_Ev.mono (x_Ev.up (c_t_rulesN (d := d) hI ar1) (by omega)) ?_; rintro v G1 ⟨g1, l1, r1, rfl, k1, k2, x, rfl, -, -, k3⟩; exact ⟨sh, g1, l1, r1, x, rfl, rfl, fun hi => absurd hi (by omega), fun _ => ⟨k3, fun K hK => t_row0 k2 rfl hK, (k2.1 0 6 rfl).2.2, (k2.1 0 7 rfl).2.2⟩⟩
  have h3 := Int32.le_iff_toInt_le.mp h3; have kf1 : (300 : Int32).toInt = 300 := (by decide)
  have hin : (0 ≤ ar1.toInt ∧ ar1.toInt ≤ (gi 0 5).toInt ∧ ar1.toInt ≤ 300) := by omega
  have lx : (0:Int) ≤ ar1.toInt := by omega
  have ux : ar1.toInt ≤ (900:Int) := by omega
  obtain ⟨N, hN⟩ : ∃ N, sh.length = N := ⟨_, rfl⟩
  rw [hN]
  have h102 := t_102 hI.wf
  rw [hN] at h102
  have hG := t_G.refl (N := N) (r := N) (gi0 := gi) (gl0 := gl) (gr0 := gr) hN (fun ci j lo hi hk ht => absurd (t_lt hk) (by omega))
  rw [show ((sh, gi, gl, gr) : x_G) = (sh ++ [], gi, gl, gr) by rw [List.append_nil]]
  refine ev_newG f_X11_rules (nx := 28) (c := 0) (ext' := [.inl 7]) rfl rfl rfl hN rfl rfl hG (fun a101 b101 g101 ea101 eb101 e101 hG => ?_)
  refine ev_alu f_X11_rules (nx := 29) rfl rfl rfl rfl ?_
  refine ev_newG f_X11_rules (nx := 32) (c := 1) (ext' := [.inl 7, .inl 8]) rfl rfl rfl hN rfl rfl hG (fun a102 b102 g102 ea102 eb102 e102 hG => ?_)
  refine ev_alu f_X11_rules (nx := 33) rfl rfl rfl rfl ?_
  refine ev_loc f_X11_rules (nx := 34) rfl rfl rfl rfl ?_
  refine ev_getR f_X11_rules (nx := 37) rfl (t_sl (hI.wf.s rfl)) rfl rfl ((congrFun (hG.1 0 (by omega) (by omega)).2.2 4).trans (hI.wf.r rfl)) rfl rfl ?_
  refine ev_loc f_X11_rules (nx := 38) rfl rfl rfl rfl ?_
  refine ev_inV3 f_X11_rules (nx := 41) (lo2 := [(0, .ref (N + 1)), (1, .ref 2), (2, .int ar1)]) rfl rfl rfl rfl f_X9_init ((t_sx hN).trans rfl) rfl rfl rfl rfl rfl ?_
  refine ev_loc f_X9_init (nx := 1) rfl rfl rfl rfl ?_
  refine ev_obj f_X9_init (nx := 4) rfl rfl (by omega) (by decide) rfl ?_
  refine ev_loc f_X9_init (nx := 5) rfl rfl rfl rfl ?_
  refine ev_ic f_X9_init (nx := 6) (v := 0) rfl (by decide) rfl ?_
  refine ev_putIG f_X9_init (nx := 9) rfl ((t_sx hN).trans rfl) rfl rfl rfl (hG.putI (Or.inl (by omega)) ((t_sx hN).trans rfl) (fun lo hi e => by have e : some ((0 : Int), (900 : Int)) = some (lo, hi) := e; cases e; exact ⟨by decide, by decide⟩) (fun _ => rfl)) (fun a103 ea103 hG => ?_)
  refine ev_loc f_X9_init (nx := 10) rfl rfl rfl rfl ?_
  refine ev_ic f_X9_init (nx := 11) (v := 3) rfl (by decide) rfl ?_
  refine ev_putIG f_X9_init (nx := 14) rfl ((t_sx hN).trans rfl) rfl rfl rfl (hG.putI (Or.inl (by omega)) ((t_sx hN).trans rfl) (fun lo hi e => by have e : (none : Option (Int × Int)) = some (lo, hi) := e; cases e) (fun h => absurd h (by decide))) (fun a104 ea104 hG => ?_)
  refine ev_loc f_X9_init (nx := 15) rfl rfl rfl rfl ?_
  refine ev_ic f_X9_init (nx := 16) (v := 0) rfl (by decide) rfl ?_
  refine ev_putIG f_X9_init (nx := 19) rfl ((t_sx hN).trans rfl) rfl rfl rfl (hG.putI (Or.inl (by omega)) ((t_sx hN).trans rfl) (fun lo hi e => by have e : some ((0 : Int), (900 : Int)) = some (lo, hi) := e; cases e; exact ⟨by decide, by decide⟩) (fun _ => rfl)) (fun a105 ea105 hG => ?_)
  refine ev_loc f_X9_init (nx := 20) rfl rfl rfl rfl ?_
  refine ev_ic f_X9_init (nx := 21) (v := 0) rfl (by decide) rfl ?_
  refine ev_putIG f_X9_init (nx := 24) rfl ((t_sx hN).trans rfl) rfl rfl rfl (hG.putI (Or.inl (by omega)) ((t_sx hN).trans rfl) (fun lo hi e => by have e : (none : Option (Int × Int)) = some (lo, hi) := e; cases e) (fun _ => rfl)) (fun a106 ea106 hG => ?_)
  refine ev_loc f_X9_init (nx := 25) rfl rfl rfl rfl ?_
  refine ev_lc f_X9_init (nx := 26) (v := 0) rfl (by decide) rfl ?_
  refine ev_putLG f_X9_init (nx := 29) rfl ((t_sx hN).trans rfl) rfl rfl rfl (hG.putL (Or.inl (by omega))) (fun b107 eb107 hG => ?_)
  refine ev_loc f_X9_init (nx := 30) rfl rfl rfl rfl ?_
  refine ev_alu f_X9_init (nx := 31) rfl rfl rfl rfl ?_
  refine ev_putRG f_X9_init (nx := 34) rfl ((t_sx hN).trans rfl) rfl rfl rfl rfl (hG.putR (Or.inl (by omega)) ((t_sx hN).trans rfl) (fun h8 h7 => Or.inl rfl)) (fun g108 e108 hG => ?_)
  refine ev_loc f_X9_init (nx := 35) rfl rfl rfl rfl ?_
  refine ev_ic f_X9_init (nx := 36) (v := 0) rfl (by decide) rfl ?_
  refine ev_putIG f_X9_init (nx := 39) rfl ((t_sx hN).trans rfl) rfl rfl rfl (hG.putI (Or.inl (by omega)) ((t_sx hN).trans rfl) (fun lo hi e => by have e : (none : Option (Int × Int)) = some (lo, hi) := e; cases e) (fun _ => rfl)) (fun a109 ea109 hG => ?_)
  refine ev_loc f_X9_init (nx := 40) rfl rfl rfl rfl ?_
  refine ev_ic f_X9_init (nx := 41) (v := 0) rfl (by decide) rfl ?_
  refine ev_putIG f_X9_init (nx := 44) rfl ((t_sx hN).trans rfl) rfl rfl rfl (hG.putI (Or.inl (by omega)) ((t_sx hN).trans rfl) (fun lo hi e => by have e : (none : Option (Int × Int)) = some (lo, hi) := e; cases e) (fun _ => rfl)) (fun a110 ea110 hG => ?_)
  refine ev_loc f_X9_init (nx := 45) rfl rfl rfl rfl ?_
  refine ev_ic f_X9_init (nx := 46) (v := 0) rfl (by decide) rfl ?_
  refine ev_putIG f_X9_init (nx := 49) rfl ((t_sx hN).trans rfl) rfl rfl rfl (hG.putI (Or.inl (by omega)) ((t_sx hN).trans rfl) (fun lo hi e => by have e : (none : Option (Int × Int)) = some (lo, hi) := e; cases e) (fun _ => rfl)) (fun a111 ea111 hG => ?_)
  refine ev_loc f_X9_init (nx := 50) rfl rfl rfl rfl ?_
  refine ev_ic f_X9_init (nx := 51) (v := -1) rfl (by decide) rfl ?_
  refine ev_putIG f_X9_init (nx := 54) rfl ((t_sx hN).trans rfl) rfl rfl rfl (hG.putI (Or.inl (by omega)) ((t_sx hN).trans rfl) (fun lo hi e => by have e : (none : Option (Int × Int)) = some (lo, hi) := e; cases e) (fun h => absurd h (by decide))) (fun a112 ea112 hG => ?_)
  refine ev_loc f_X9_init (nx := 55) rfl rfl rfl rfl ?_
  refine ev_loc f_X9_init (nx := 56) rfl rfl rfl rfl ?_
  refine ev_putRG f_X9_init (nx := 59) rfl ((t_sx hN).trans rfl) rfl rfl rfl rfl (hG.putR (Or.inl (by omega)) ((t_sx hN).trans rfl) (fun h8 h7 => absurd h7 (by decide))) (fun g113 e113 hG => ?_)
  refine ev_loc f_X9_init (nx := 60) rfl rfl rfl rfl ?_
  refine ev_loc f_X9_init (nx := 61) rfl rfl rfl rfl ?_
  refine ev_loc f_X9_init (nx := 62) rfl rfl rfl rfl ?_
  refine ev_alenv f_X9_init (nx := 63) (w := 900) rfl (t_sl (hI.wf.s rfl)) rfl (by decide) rfl ?_
  refine ev_minE f_X9_init (nx := 66) (l := 0) (u := 900) rfl rfl (by omega) rfl lx ux (by decide : (900:Int) ≤ (900:Int32).toInt) (by decide : (900:Int32).toInt ≤ (900:Int)) (by decide) (by decide) rfl (fun w114 e114 l114 u114 => ?_)
  refine ev_putIG f_X9_init (nx := 69) rfl ((t_sx hN).trans rfl) rfl rfl rfl (hG.putI (Or.inl (by omega)) ((t_sx hN).trans rfl) (fun lo hi e => by have e : some ((0 : Int), (900 : Int)) = some (lo, hi) := e; cases e; exact ⟨l114, u114⟩) (fun h => absurd h (by decide))) (fun a115 ea115 hG => ?_)
  refine ev_loc f_X9_init (nx := 70) rfl rfl rfl rfl ?_
  have hI1 := hG.I hN hI hH (by omega) (fun s hs => absurd (t_lt hs) (by omega))
  have hTk : t_Tk (sh ++ ([.inl 7, .inl 8] : List (Nat ⊕ (Nat × Nat)))) g113 (N + 1) := ⟨(t_sx hN).trans rfl, (by rw [e113]; exact x_up2_at _ _ _ _)⟩
  have i1_1 : a115 (N + 1) 1 = w114 := by rw [ea115, x_up2_at]
  have i1_2 : a115 (N + 1) 2 = 0 := by rw [ea115, x_up2_off (Or.inr (by decide)), ea112, x_up2_off (Or.inr (by decide)), ea111, x_up2_off (Or.inr (by decide)), ea110, x_up2_off (Or.inr (by decide)), ea109, x_up2_off (Or.inr (by decide)), ea106, x_up2_off (Or.inr (by decide)), ea105, x_up2_off (Or.inr (by decide)), ea104, x_up2_off (Or.inr (by decide)), ea103, x_up2_at]
  have i1_10 : a115 (N + 1) 10 = 0 := by rw [ea115, x_up2_off (Or.inr (by decide)), ea112, x_up2_off (Or.inr (by decide)), ea111, x_up2_at]
  have i1_11 : a115 (N + 1) 11 = (-1) := by rw [ea115, x_up2_off (Or.inr (by decide)), ea112, x_up2_at]
  have hS : t_Sp (gi 2) ar1.toNatClampNeg 0 a115 (N + 1) := ⟨(hG.1 2 (by omega) (by omega)).1, by rw [i1_1]; have hc := t_clamp (i := ar1) lx; have h9 : (900 : Int32).toInt = 900 := rfl; omega, by rw [i1_2]; rfl, Nat.zero_le _⟩
  have hG1 := hG
  have hX : t_X wl_s_step (sh ++ ([.inl 7, .inl 8] : List (Nat ⊕ (Nat × Nat)))) a115 b107 g113 a115 b107 g113 := t_X.rf
  refine ev_qN f_X9_init (nx := 73) (r := []) rfl rfl rfl rfl rfl rfl rfl (x_Me.up (c_s_step (d := d) hI1 (N + 1) hTk) (by omega)) rfl hX rfl (fun gi1 gl1 gr1 hI2 hX1 _ qs => ?_)
  have hT1 := qs.1 (gi 2) _ 0 hS
  have hF1 : t_FL gi1 (N + 1) 0 (-1) := ⟨by rw [qs.2.1.1, i1_10]; rfl, by rw [qs.2.1.2, i1_11]; rfl⟩
  replace hTk := hTk.ext hX1.2
  have hN2 : (sh ++ ([.inl 7, .inl 8] : List (Nat ⊕ (Nat × Nat)))).length = N + 2 := by rw [List.length_append, hN]; rfl
  have hG := t_G.refl (N := N + 2) (r := N + 0) (gi0 := gi1) (gl0 := gl1) (gr0 := gr1) hN2 (fun ci j lo hi hk ht => hI2.b hk ht)
  rw [show (((sh ++ ([.inl 7, .inl 8] : List (Nat ⊕ (Nat × Nat)))), gi1, gl1, gr1) : x_G) = ((sh ++ ([.inl 7, .inl 8] : List (Nat ⊕ (Nat × Nat)))) ++ [], gi1, gl1, gr1) by rw [List.append_nil]]
  refine ev_retK0 f_X9_init rfl rfl rfl ?_
  refine ev_newG f_X11_rules (nx := 44) (c := 0) (ext' := [.inl 6]) rfl rfl rfl hN2 rfl rfl hG (fun a116 b116 g116 ea116 eb116 e116 hG => ?_)
  refine ev_alu f_X11_rules (nx := 45) rfl rfl rfl rfl ?_
  refine ev_loc f_X11_rules (nx := 46) rfl rfl rfl rfl ?_
  refine ev_inV2 f_X11_rules (nx := 49) (lo2 := [(0, .ref (N + 2 + 0)), (1, .int ar1)]) rfl rfl rfl rfl f_X7_init ((t_sx hN2).trans rfl) rfl rfl rfl rfl rfl ?_
  refine ev_loc f_X7_init (nx := 1) rfl rfl rfl rfl ?_
  refine ev_obj f_X7_init (nx := 4) rfl rfl (by omega) (by decide) rfl ?_
  refine ev_loc f_X7_init (nx := 5) rfl rfl rfl rfl ?_
  refine ev_ic f_X7_init (nx := 6) (v := 0) rfl (by decide) rfl ?_
  refine ev_putIG f_X7_init (nx := 9) rfl ((t_sx hN2).trans rfl) rfl rfl rfl (hG.putI (Or.inl (by omega)) ((t_sx hN2).trans rfl) (fun lo hi e => by have e : some ((0 : Int), (12 : Int)) = some (lo, hi) := e; cases e; exact ⟨by decide, by decide⟩) (fun _ => rfl)) (fun a117 ea117 hG => ?_)
  refine ev_loc f_X7_init (nx := 10) rfl rfl rfl rfl ?_
  refine ev_bp f_X7_init (nx := 12) (v := 12) rfl (by decide) rfl ?_
  refine ev_arrG f_X7_init (nx := 14) (c := 1) (m := 12) (ext' := [.inl 6, .inr (0, 12)]) rfl rfl (by decide) rfl (by decide) rfl hN2 rfl rfl hG (fun a118 b118 g118 ea118 eb118 e118 hG => ?_)
  refine ev_putRG f_X7_init (nx := 17) rfl ((t_sx hN2).trans rfl) rfl rfl rfl rfl (hG.putR (Or.inl (by omega)) ((t_sx hN2).trans rfl) (fun h8 h7 => absurd h8 (by decide))) (fun g119 e119 hG => ?_)
  refine ev_loc f_X7_init (nx := 18) rfl rfl rfl rfl ?_
  refine ev_bp f_X7_init (nx := 20) (v := 12) rfl (by decide) rfl ?_
  refine ev_arrG f_X7_init (nx := 22) (c := 2) (m := 12) (ext' := [.inl 6, .inr (0, 12), .inr (0, 12)]) rfl rfl (by decide) rfl (by decide) rfl hN2 rfl rfl hG (fun a120 b120 g120 ea120 eb120 e120 hG => ?_)
  refine ev_putRG f_X7_init (nx := 25) rfl ((t_sx hN2).trans rfl) rfl rfl rfl rfl (hG.putR (Or.inl (by omega)) ((t_sx hN2).trans rfl) (fun h8 h7 => absurd h8 (by decide))) (fun g121 e121 hG => ?_)
  refine ev_loc f_X7_init (nx := 26) rfl rfl rfl rfl ?_
  refine ev_ic f_X7_init (nx := 27) (v := 0) rfl (by decide) rfl ?_
  refine ev_putIG f_X7_init (nx := 30) rfl ((t_sx hN2).trans rfl) rfl rfl rfl (hG.putI (Or.inl (by omega)) ((t_sx hN2).trans rfl) (fun lo hi e => by have e : some ((0 : Int), (300 : Int)) = some (lo, hi) := e; cases e; exact ⟨by decide, by decide⟩) (fun _ => rfl)) (fun a122 ea122 hG => ?_)
  refine ev_loc f_X7_init (nx := 31) rfl rfl rfl rfl ?_
  refine ev_ic f_X7_init (nx := 32) (v := 0) rfl (by decide) rfl ?_
  refine ev_mm f_X7_init (nx := 35) rfl rfl rfl (by omega) (by decide) rfl ?_
  rw [t_mx lx]
  refine ev_loc f_X7_init (nx := 36) (lo' := [(2, .int ar1), (0, .ref (N + 2 + 0)), (1, .int ar1)]) rfl rfl rfl rfl ?_
  refine ev_loc f_X7_init (nx := 37) rfl rfl rfl rfl ?_
  refine ev_loc f_X7_init (nx := 38) rfl rfl rfl rfl ?_
  refine ev_arrG f_X7_init (nx := 40) (c := 3) (m := ar1.toNatClampNeg) (ext' := [.inl 6, .inr (0, 12), .inr (0, 12), .inr (0, ar1.toNatClampNeg)]) rfl rfl lx rfl (decide_eq_true (by have hc := t_clamp (i := ar1) lx; omega)) rfl hN2 rfl rfl hG (fun a124 b124 g124 ea124 eb124 e124 hG => ?_)
  refine ev_putRG f_X7_init (nx := 43) rfl ((t_sx hN2).trans rfl) rfl rfl rfl rfl (hG.putR (Or.inl (by omega)) ((t_sx hN2).trans rfl) (fun h8 h7 => absurd h8 (by decide))) (fun g125 e125 hG => ?_)
  refine ev_loc f_X7_init (nx := 44) rfl rfl rfl rfl ?_
  refine ev_loc f_X7_init (nx := 45) rfl rfl rfl rfl ?_
  refine ev_arrG f_X7_init (nx := 47) (c := 4) (m := ar1.toNatClampNeg) (ext' := [.inl 6, .inr (0, 12), .inr (0, 12), .inr (0, ar1.toNatClampNeg), .inr (0, ar1.toNatClampNeg)]) rfl rfl lx rfl (decide_eq_true (by have hc := t_clamp (i := ar1) lx; omega)) rfl hN2 rfl rfl hG (fun a126 b126 g126 ea126 eb126 e126 hG => ?_)
  refine ev_putRG f_X7_init (nx := 50) rfl ((t_sx hN2).trans rfl) rfl rfl rfl rfl (hG.putR (Or.inl (by omega)) ((t_sx hN2).trans rfl) (fun h8 h7 => absurd h8 (by decide))) (fun g127 e127 hG => ?_)
  refine ev_loc f_X7_init (nx := 51) rfl rfl rfl rfl ?_
  refine ev_loc f_X7_init (nx := 52) rfl rfl rfl rfl ?_
  refine ev_arrG f_X7_init (nx := 54) (c := 5) (m := ar1.toNatClampNeg) (ext' := [.inl 6, .inr (0, 12), .inr (0, 12), .inr (0, ar1.toNatClampNeg), .inr (0, ar1.toNatClampNeg), .inr (0, ar1.toNatClampNeg)]) rfl rfl lx rfl (decide_eq_true (by have hc := t_clamp (i := ar1) lx; omega)) rfl hN2 rfl rfl hG (fun a128 b128 g128 ea128 eb128 e128 hG => ?_)
  refine ev_putRG f_X7_init (nx := 57) rfl ((t_sx hN2).trans rfl) rfl rfl rfl rfl (hG.putR (Or.inl (by omega)) ((t_sx hN2).trans rfl) (fun h8 h7 => absurd h8 (by decide))) (fun g129 e129 hG => ?_)
  refine ev_retK0 f_X7_init rfl rfl rfl ?_
  refine ev_inV3 f_X11_rules (nx := 52) (lo2 := [(0, .ref (N + 0)), (1, .ref (N + 1)), (2, .ref (N + 2 + 0))]) rfl rfl rfl rfl f_X8_init (t_sl ((t_sx hN).trans rfl)) rfl rfl rfl rfl rfl ?_
  refine ev_loc f_X8_init (nx := 1) rfl rfl rfl rfl ?_
  refine ev_obj f_X8_init (nx := 4) rfl rfl (by omega) (by decide) rfl ?_
  refine ev_loc f_X8_init (nx := 5) rfl rfl rfl rfl ?_
  refine ev_ic f_X8_init (nx := 6) (v := 0) rfl (by decide) rfl ?_
  refine ev_putIG f_X8_init (nx := 9) rfl (t_sl ((t_sx hN).trans rfl)) rfl rfl rfl (hG.putI (Or.inr rfl) (t_sl ((t_sx hN).trans rfl)) (fun lo hi e => by have e : (none : Option (Int × Int)) = some (lo, hi) := e; cases e) (fun _ => rfl)) (fun a130 ea130 hG => ?_)
  refine ev_loc f_X8_init (nx := 10) rfl rfl rfl rfl ?_
  refine ev_loc f_X8_init (nx := 11) rfl rfl rfl rfl ?_
  refine ev_putRG f_X8_init (nx := 14) rfl (t_sl ((t_sx hN).trans rfl)) rfl rfl rfl rfl (hG.putR (Or.inr rfl) (t_sl ((t_sx hN).trans rfl)) (fun h8 h7 => absurd h8 (by decide))) (fun g131 e131 hG => ?_)
  refine ev_loc f_X8_init (nx := 15) rfl rfl rfl rfl ?_
  refine ev_loc f_X8_init (nx := 16) rfl rfl rfl rfl ?_
  refine ev_putRG f_X8_init (nx := 19) rfl (t_sl ((t_sx hN).trans rfl)) rfl rfl rfl rfl (hG.putR (Or.inr rfl) (t_sl ((t_sx hN).trans rfl)) (fun h8 h7 => absurd h8 (by decide))) (fun g132 e132 hG => ?_)
  refine ev_retK0 f_X8_init rfl rfl rfl ?_
  refine ev_loc f_X11_rules (nx := 53) (lo' := [(2, .ref (N + 0)), (0, .ref 0), (1, .int ar1)]) rfl rfl rfl rfl ?_
  have hI3 := hG.I hN2 hI2 (t_H_ext hH (t_he rfl)) (by omega) (fun s hs => Or.inr (by rw [(t_sx hN).trans rfl] at hs; cases hs; rfl))
  have hRu : t_Ru ((sh ++ ([.inl 7, .inl 8] : List (Nat ⊕ (Nat × Nat)))) ++ [.inl 6, .inr (0, 12), .inr (0, 12), .inr (0, ar1.toNatClampNeg), .inr (0, ar1.toNatClampNeg), .inr (0, ar1.toNatClampNeg)]) g132 (N + 2) := ⟨(t_sx (i := 0) hN2).trans rfl, by omega, (by rw [e132, x_up2_off (Or.inl (by omega)), e131, x_up2_off (Or.inl (by omega)), e129, x_up2_off (Or.inr (by decide)), e128, x_clr_ne (by omega), e127, x_up2_off (Or.inr (by decide)), e126, x_clr_ne (by omega), e125, x_up2_off (Or.inr (by decide)), e124, x_clr_ne (by omega), e121, x_up2_off (Or.inr (by decide)), e120, x_clr_ne (by omega), e119]; exact x_up2_at _ _ _ _), (by rw [e132, x_up2_off (Or.inl (by omega)), e131, x_up2_off (Or.inl (by omega)), e129, x_up2_off (Or.inr (by decide)), e128, x_clr_ne (by omega), e127, x_up2_off (Or.inr (by decide)), e126, x_clr_ne (by omega), e125, x_up2_off (Or.inr (by decide)), e124, x_clr_ne (by omega), e121]; exact x_up2_at _ _ _ _), (t_sx (i := 1) hN2).trans rfl, (t_sx (i := 2) hN2).trans rfl, ar1.toNatClampNeg, by have hc := t_clamp (i := ar1) lx; omega, (by rw [e132, x_up2_off (Or.inl (by omega)), e131, x_up2_off (Or.inl (by omega)), e129, x_up2_off (Or.inr (by decide)), e128, x_clr_ne (by omega), e127, x_up2_off (Or.inr (by decide)), e126, x_clr_ne (by omega), e125]; exact x_up2_at _ _ _ _), (by rw [e132, x_up2_off (Or.inl (by omega)), e131, x_up2_off (Or.inl (by omega)), e129, x_up2_off (Or.inr (by decide)), e128, x_clr_ne (by omega), e127]; exact x_up2_at _ _ _ _), (by rw [e132, x_up2_off (Or.inl (by omega)), e131, x_up2_off (Or.inl (by omega)), e129]; exact x_up2_at _ _ _ _), (t_sx (i := 3) hN2).trans rfl, (t_sx (i := 4) hN2).trans rfl, (t_sx (i := 5) hN2).trans rfl⟩
  have f0 : g132 (N + 0) 0 = .ref (N + 1) := (by rw [e132, x_up2_off (Or.inr (by decide)), e131]; exact x_up2_at _ _ _ _)
  have f1 : g132 (N + 0) 1 = .ref (N + 2 + 0) := (by rw [e132]; exact x_up2_at _ _ _ _)
  have hTk2 : t_Tk ((sh ++ ([.inl 7, .inl 8] : List (Nat ⊕ (Nat × Nat)))) ++ [.inl 6, .inr (0, 12), .inr (0, 12), .inr (0, ar1.toNatClampNeg), .inr (0, ar1.toNatClampNeg), .inr (0, ar1.toNatClampNeg)]) g132 (N + 1) := ⟨t_sl ((t_sx hN).trans rfl), (congrFun (hG.1 (N + 1) (by omega) (by omega)).2.2 0).trans hTk.2⟩
  have hR : t_UQ ((sh ++ ([.inl 7, .inl 8] : List (Nat ⊕ (Nat × Nat)))) ++ [.inl 6, .inr (0, 12), .inr (0, 12), .inr (0, ar1.toNatClampNeg), .inr (0, ar1.toNatClampNeg), .inr (0, ar1.toNatClampNeg)]) g132 N := ⟨t_sl ((t_sx (i := 0) hN).trans rfl), by omega, ⟨f0, hTk2⟩, f1, hRu⟩
  have zR2 : (a130 (N + 0) 2).toInt = 0 := by rw [ea130, x_up2_at]; rfl
  have zV0 : (a130 (N + 2 + 0) 0).toInt = 0 := by rw [ea130, x_up2_off (Or.inl (by omega)), ea128, x_clr_ne (by omega), ea126, x_clr_ne (by omega), ea124, x_clr_ne (by omega), ea122, x_up2_off (Or.inr (by decide)), ea120, x_clr_ne (by omega), ea118, x_clr_ne (by omega), ea117, x_up2_at]; rfl
  have hT2 := hT1.eq (g1 := a130) (l1 := b128) (r1 := g132) (hG.1 2 (by omega) (by omega)).1 (hG.1 (N + 1) (by omega) (by omega)).1 (hG.1 (N + 1) (by omega) (by omega)).2.1 (hG.1 (N + 1) (by omega) (by omega)).2.2
  have hF2 : t_FL a130 (N + 1) 0 (-1) := by rw [t_FL, (hG.1 (N + 1) (by omega) (by omega)).1]; exact hF1
  refine ev_sub (lo := [(0, .ref 0), (1, .int ar1), (2, .ref (N + 0))]) rfl (t_sc rfl (t_sc rfl (t_sc rfl t_sn))) ?_
  refine x_Ev.mono (x_Ev.up (c_u_rulesT (d := d) hI3 ar1 N hR) (by omega)) ?_
  rintro v G1 ⟨g1, l1, r1, rfl, k1, k2, x, rfl, -, -, k3, k4⟩
  refine ⟨_, g1, l1, r1, x, rfl, rfl, fun _ n hn => ?_, fun hh => absurd hin hh⟩
  have en : n = ar1.toNatClampNeg := by have hc := t_clamp (i := ar1) lx; omega
  subst en
  have hr6 : g132 0 6 = gr 0 6 := by rw [(hG.1 0 (by omega) (by omega)).2.2, (hX1.1 0 6 rfl).2.2, (hG1.1 0 (by omega) (by omega)).2.2]
  have hr7 : g132 0 7 = gr 0 7 := by rw [(hG.1 0 (by omega) (by omega)).2.2, (hX1.1 0 7 rfl).2.2, (hG1.1 0 (by omega) (by omega)).2.2]
  refine ⟨(k3 _ _ ⟨hT2, ⟨by have hc := t_clamp (i := ar1) lx; omega, zR2⟩, hF2⟩ zV0).imp ?_ ?_, fun K k0 hK => ?_⟩
  · rintro ⟨kk, a1, a2, a3, a4, a5, a6, a7⟩
    exact ⟨kk, a1, a2, a3, a4, a5.trans hr6, a6, a7⟩
  · rintro ⟨p, x2, a1, a2, a3, a4, a5, a6, a7⟩
    exact ⟨p, x2, a1, a2, a3, a4, a5, a6.trans hr6, a7.trans hr7⟩
  · have f1 := k4 K k0 hK
    have f2 := hG.1 K (by omega) (by omega)
    have f3 := qs.2.2 K (by omega)
    have f4 := hG1.1 K (by omega) (by omega)
    exact ⟨f1.1.trans (f2.1.trans (f3.1.trans f4.1)), f1.2.1.trans (f2.2.1.trans (f3.2.1.trans f4.2.1)), f1.2.2.trans (f2.2.2.trans (f3.2.2.trans f4.2.2))⟩
/-! ===== the other side's pile of what is open in CONDITIONS ===== -/
noncomputable def s_tku (f : Nat → Int32) : Nat → List Int
  | 0 => []
  | h + 1 => if (f h).toInt = 20 ∨ (f h).toInt = 40 then (f h).toInt :: s_tku f h else s_tku f h
/-- nothing but what belongs there, and no joiner upon a not -/
noncomputable def s_wf (f : Nat → Int32) (h : Nat) : Prop := (∀ i, i < h → (f i).toInt = 18 ∨ (f i).toInt = 19 ∨ (f i).toInt = 20 ∨ (f i).toInt = 40) ∧ ∀ i, i + 1 < h → (f (i + 1)).toInt = 18 ∨ (f (i + 1)).toInt = 19 → (f i).toInt ≠ 20
noncomputable def t_MT (f : Nat → Int32) (h : Nat) (T : List Int) : Prop := s_wf f h ∧ s_tku f h = T
section PIL
variable {f g : Nat → Int32} {h k : Nat} {T : List Int}
theorem s_pop_len : ∀ T : List Int, (s_pop T).length ≤ T.length
  | [] => Nat.le_refl _
  | x :: T => by
    unfold s_pop
    split
    · have := s_pop_len T; rw [List.length_cons]; omega
    · exact Nat.le_refl _
theorem s_pop_pop : ∀ T : List Int, s_pop (s_pop T) = s_pop T
  | [] => rfl
  | x :: T => by
    by_cases hx : x = 20
    · have e : s_pop (x :: T) = s_pop T := if_pos hx
      rw [e]; exact s_pop_pop T
    · have e : s_pop (x :: T) = x :: T := if_neg hx
      rw [e, e]
theorem s_wf.lt (w : s_wf f h) (hk : k ≤ h) : s_wf f k := ⟨fun i hi => w.1 i (by omega), fun i hi => w.2 i (by omega)⟩
theorem s_tk_eq : ∀ h : Nat, (∀ j, j < h → g j = f j) → s_tku g h = s_tku f h
  | 0, _ => rfl
  | h + 1, e => by
    have ih := s_tk_eq h (fun j hj => e j (by omega))
    unfold s_tku
    rw [e h (by omega), ih]
theorem s_wf_eq (w : s_wf f h) (e : ∀ j, j < h → g j = f j) : s_wf g h := ⟨fun i hi => by rw [e i hi]; exact w.1 i hi, fun i hi => by rw [e i (by omega), e (i + 1) hi]; exact w.2 i hi⟩
theorem t_MT.eq (m : t_MT f h T) (e : ∀ j, j < h → g j = f j) : t_MT g h T := ⟨s_wf_eq m.1 e, (s_tk_eq h e).trans m.2⟩
theorem t_MT_0 : t_MT f 0 [] := ⟨⟨fun i hi => by omega, fun i hi => by omega⟩, rfl⟩
/-- a joiner is taken off -/
theorem t_MT.j (m : t_MT f (k + 1) T) (hj : (f k).toInt = 18 ∨ (f k).toInt = 19) : t_MT f k T := by
  refine ⟨m.1.lt (by omega), ?_⟩
  have e : s_tku f (k + 1) = s_tku f k := if_neg (by omega)
  rw [← e]; exact m.2
/-- what is open is taken off -/
theorem t_MT.o (m : t_MT f (k + 1) T) (hj : (f k).toInt = 20 ∨ (f k).toInt = 40) : ∃ T2, T = (f k).toInt :: T2 ∧ t_MT f k T2 :=
  ⟨s_tku f k, by rw [← m.2]; exact if_pos hj, m.1.lt (by omega), rfl⟩
/-- a joiner on top: no not below it -/
theorem t_MT.pj : ∀ {k : Nat} {T : List Int}, t_MT f (k + 1) T → ((f k).toInt = 18 ∨ (f k).toInt = 19) → s_pop T = T
  | 0, T, m, hj => by
    have m0 := m.j hj
    have e : T = [] := m0.2.symm
    rw [e]; rfl
  | k + 1, T, m, hj => by
    have m0 := m.j hj
    have hn := m.1.2 k (by omega) hj
    rcases m.1.1 k (by omega) with h1 | h1 | h1 | h1
    · exact t_MT.pj m0 (Or.inl h1)
    · exact t_MT.pj m0 (Or.inr h1)
    · exact absurd h1 hn
    · obtain ⟨T2, e, _⟩ := m0.o (Or.inr h1)
      rw [e, h1]; exact if_neg (by decide)
/-- what is on top, told by T -/
theorem t_MT.p20 (m : t_MT f (k + 1) T) (hp : s_pop T = T) : (f k).toInt ≠ 20 := by
  intro h2
  obtain ⟨T2, e, _⟩ := m.o (Or.inl h2)
  rw [h2] at e
  have h3 : s_pop T = s_pop T2 := by rw [e]; exact if_pos rfl
  have h4 := s_pop_len T2
  rw [← h3, hp, e, List.length_cons] at h4
  omega
theorem t_MT.n20 (m : t_MT f (k + 1) T) (h2 : (f k).toInt ≠ 20) : s_pop T = T := by
  rcases m.1.1 k (by omega) with h1 | h1 | h1 | h1
  · exact m.pj (Or.inl h1)
  · exact m.pj (Or.inr h1)
  · exact absurd h1 h2
  · obtain ⟨T2, e, _⟩ := m.o (Or.inr h1)
    rw [e, h1]; exact if_neg (by decide)
theorem t_MT.e0 (m : t_MT f 0 T) : T = [] := m.2.symm
theorem t_MT.ne (m : t_MT f h T) (hT : T ≠ []) : ∃ k, h = k + 1 := by
  cases h with
  | zero => exact absurd m.e0 hT
  | succ k => exact ⟨k, rfl⟩
/-- within a bracket -/
theorem t_MT.wi : ∀ {h : Nat} {T : List Int}, t_MT f h T → s_pop T = T → ((∃ i, i < h ∧ (f i).toInt = 40) ↔ T ≠ [])
  | 0, T, m, _ => ⟨fun ⟨i, hi, _⟩ => by omega, fun hT => absurd m.e0 hT⟩
  | k + 1, T, m, hp => by
    have h20 := m.p20 hp
    rcases m.1.1 k (by omega) with h1 | h1 | h1 | h1
    · rw [← t_MT.wi (m.j (Or.inl h1)) hp]
      exact ⟨fun ⟨i, hi, h4⟩ => ⟨i, by by_cases hik : i = k; (rw [hik] at h4; omega); omega, h4⟩, fun ⟨i, hi, h4⟩ => ⟨i, by omega, h4⟩⟩
    · rw [← t_MT.wi (m.j (Or.inr h1)) hp]
      exact ⟨fun ⟨i, hi, h4⟩ => ⟨i, by by_cases hik : i = k; (rw [hik] at h4; omega); omega, h4⟩, fun ⟨i, hi, h4⟩ => ⟨i, by omega, h4⟩⟩
    · exact absurd h1 h20
    · obtain ⟨T2, e, _⟩ := m.o (Or.inr h1)
      exact ⟨fun _ => by rw [e]; exact List.cons_ne_nil _ _, fun _ => ⟨k, by omega, h1⟩⟩
/-- one more -/
theorem t_MT.push (m : t_MT f h T) {v : Int32} (e : ∀ j, g j = if j = h then v else f j) (hv : v.toInt = 20 ∨ v.toInt = 40) : t_MT g (h + 1) (v.toInt :: T) := by
  have e1 : ∀ j, j < h → g j = f j := fun j hj => by rw [e, if_neg (by omega)]
  have e2 : g h = v := by rw [e, if_pos rfl]
  have m2 := m.eq e1
  refine ⟨⟨fun i hi => ?_, fun i hi hh => ?_⟩, ?_⟩
  · by_cases hih : i = h
    · rw [hih, e2]; omega
    · exact m2.1.1 i (by omega)
  · by_cases hih : i + 1 = h
    · rw [hih, e2] at hh; omega
    · exact m2.1.2 i (by omega) hh
  · show (if (g h).toInt = 20 ∨ (g h).toInt = 40 then (g h).toInt :: s_tku g h else s_tku g h) = _
    rw [e2, if_pos hv, m2.2]
theorem t_MT.pushj (m : t_MT f h T) (hp : s_pop T = T) {v : Int32} (e : ∀ j, g j = if j = h then v else f j) (hv : v.toInt = 18 ∨ v.toInt = 19) : t_MT g (h + 1) T := by
  have e1 : ∀ j, j < h → g j = f j := fun j hj => by rw [e, if_neg (by omega)]
  have e2 : g h = v := by rw [e, if_pos rfl]
  have m2 := m.eq e1
  refine ⟨⟨fun i hi => ?_, fun i hi hh => ?_⟩, ?_⟩
  · by_cases hih : i = h
    · rw [hih, e2]; omega
    · exact m2.1.1 i (by omega)
  · by_cases hih : i + 1 = h
    · subst hih; exact m2.p20 hp
    · exact m2.1.2 i (by omega) hh
  · show (if (g h).toInt = 20 ∨ (g h).toInt = 40 then (g h).toInt :: s_tku g h else s_tku g h) = _
    rw [e2, if_neg (by omega), m2.2]
end PIL
/-! ===== the other side within CONDITIONS ===== -/
/-- the TOKEN, no FAULT; so many CASES, so many open; the pile says T -/
noncomputable def t_MC (b : Nat → Int32) (n q c : Nat) (T : List Int) (gi : Nat → Nat → Int32) : Prop := (t_TM b n q gi ∧ t_MF gi 0 (-1)) ∧ (n ≤ 300 ∧ (gi 69 24).toInt = (c : Int) ∧ (gi 69 23).toInt = (T.length : Int)) ∧ t_MT (gi 77) (gi 69 22).toInt.toNat T
/-- nothing that a TOKEN stands in, no FAULT was touched -/
noncomputable def t_fM (gi g1 : Nat → Nat → Int32) : Prop := (∀ j, g1 76 j = gi 76 j) ∧ ∀ j, 11 ≤ j → j ≤ 18 → g1 69 j = gi 69 j
section TMC
variable {b : Nat → Int32} {n q q' c : Nat} {T : List Int} {gi g1 g2 : Nat → Nat → Int32}
theorem t_fM.rf : t_fM gi gi := ⟨fun _ => rfl, fun _ _ _ => rfl⟩
theorem t_fM.u9 (f : t_fM gi g1) {j : Nat} {v : Int32} (hj : j < 11 ∨ 18 < j) (e : g2 = x_up2 g1 69 j v) : t_fM gi g2 := ⟨fun k => by rw [e, x_up2_ne (by decide)]; exact f.1 k, fun k k1 k2 => by rw [e, x_up2_off (Or.inr (by omega))]; exact f.2 k k1 k2⟩
theorem t_fM.ux (f : t_fM gi g1) {o j : Nat} {v : Int32} (ho : 69 ≠ o ∧ 76 ≠ o) (e : g2 = x_up2 g1 o j v) : t_fM gi g2 := ⟨fun k => by rw [e, x_up2_ne ho.2]; exact f.1 k, fun k k1 k2 => by rw [e, x_up2_ne ho.1]; exact f.2 k k1 k2⟩
theorem t_MF.fM {x p : Int} (h : t_MF gi x p) (f : t_fM gi g1) : t_MF g1 x p := by
  unfold t_MF; rw [f.2 18 (by decide) (by decide), f.2 17 (by decide) (by decide)]; exact h
theorem t_MF.mf {x p : Int} (h : t_MF gi x p) (m : t_mf gi g1) : t_MF g1 x p := by
  unfold t_MF; rw [m.1, m.2]; exact h
theorem t_TM.fM (h : t_TM b n q gi) (f : t_fM gi g1) : t_TM b n q g1 := h.eq f.1 (fun j j1 j2 => f.2 j j1 (by omega))
theorem t_MC.qn (h : t_MC b n q c T gi) : q ≤ n := h.1.1.1.2
/-- the TOKEN on, the rest as it was -/
theorem t_MC.ah (h : t_MC b n q c T gi) (ht : t_TM b n q' g1) (hm : t_mf gi g1) (e24 : (g1 69 24).toInt = (gi 69 24).toInt) (e23 : (g1 69 23).toInt = (gi 69 23).toInt) (e22 : (g1 69 22).toInt = (gi 69 22).toInt) (e77 : g1 77 = gi 77) : t_MC b n q' c T g1 :=
  ⟨⟨ht, by unfold t_MF; rw [hm.1, hm.2]; exact h.1.2⟩, ⟨h.2.1.1, e24.trans h.2.1.2.1, e23.trans h.2.1.2.2⟩, by rw [e22, e77]; exact h.2.2⟩
theorem t_MC.sm (h : t_MC b n q c T gi) (f : t_fM gi g1) (e24 : (g1 69 24).toInt = (gi 69 24).toInt) (e23 : (g1 69 23).toInt = (gi 69 23).toInt) (e22 : (g1 69 22).toInt = (gi 69 22).toInt) (e77 : g1 77 = gi 77) : t_MC b n q c T g1 :=
  h.ah (h.1.1.fM f) ⟨f.2 18 (by decide) (by decide), f.2 17 (by decide) (by decide)⟩ e24 e23 e22 e77
/-- a CASE more -/
theorem t_MC.c1 (h : t_MC b n q c T gi) (f : t_fM gi g1) (e24 : (g1 69 24).toInt = (gi 69 24).toInt + 1) (e23 : (g1 69 23).toInt = (gi 69 23).toInt) (e22 : (g1 69 22).toInt = (gi 69 22).toInt) (e77 : g1 77 = gi 77) : t_MC b n q (c + 1) T g1 :=
  ⟨⟨h.1.1.fM f, h.1.2.fM f⟩, ⟨h.2.1.1, by rw [e24, h.2.1.2.1]; omega, e23.trans h.2.1.2.2⟩, by rw [e22, e77]; exact h.2.2⟩
/-- what is open is taken off -/
theorem t_MC.po (h : t_MC b n q c T gi) {x : Int} (hx : x = 20 ∨ x = 40) (h0 : 1 ≤ (gi 69 22).toInt) (ht : (gi 77 ((gi 69 22).toInt.toNat - 1)).toInt = x) (f : t_fM gi g1) (e24 : (g1 69 24).toInt = (gi 69 24).toInt) (e23 : (g1 69 23).toInt = (gi 69 23).toInt - 1) (e22 : (g1 69 22).toInt = (gi 69 22).toInt - 1) (e77 : g1 77 = gi 77) : ∃ T2, T = x :: T2 ∧ t_MC b n q c T2 g1 := by
  obtain ⟨k, hk⟩ : ∃ k, (gi 69 22).toInt.toNat = k + 1 := ⟨(gi 69 22).toInt.toNat - 1, by omega⟩
  have m := h.2.2
  rw [hk] at m ht
  rw [show k + 1 - 1 = k by omega] at ht
  obtain ⟨T2, e, m2⟩ := m.o (by rw [ht]; exact hx)
  rw [ht] at e
  refine ⟨T2, e, ⟨h.1.1.fM f, h.1.2.fM f⟩, ⟨h.2.1.1, e24.trans h.2.1.2.1, ?_⟩, ?_⟩
  · have h3 := h.2.1.2.2
    rw [e, List.length_cons] at h3
    omega
  · rw [show (g1 69 22).toInt.toNat = k by omega, e77]; exact m2
/-- a joiner is taken off -/
theorem t_MC.pj (h : t_MC b n q c T gi) (h0 : 1 ≤ (gi 69 22).toInt) (ht : (gi 77 ((gi 69 22).toInt.toNat - 1)).toInt = 18 ∨ (gi 77 ((gi 69 22).toInt.toNat - 1)).toInt = 19) (f : t_fM gi g1) (e24 : (g1 69 24).toInt = (gi 69 24).toInt) (e23 : (g1 69 23).toInt = (gi 69 23).toInt) (e22 : (g1 69 22).toInt = (gi 69 22).toInt - 1) (e77 : g1 77 = gi 77) : t_MC b n q c T g1 := by
  obtain ⟨k, hk⟩ : ∃ k, (gi 69 22).toInt.toNat = k + 1 := ⟨(gi 69 22).toInt.toNat - 1, by omega⟩
  have m := h.2.2
  rw [hk] at m ht
  rw [show k + 1 - 1 = k by omega] at ht
  refine ⟨⟨h.1.1.fM f, h.1.2.fM f⟩, ⟨h.2.1.1, e24.trans h.2.1.2.1, e23.trans h.2.1.2.2⟩, ?_⟩
  rw [show (g1 69 22).toInt.toNat = k by omega, e77]; exact m.j ht
/-- on top, with no not there: a joiner or a bracket -/
theorem t_MC.top (h : t_MC b n q c T gi) (hp : s_pop T = T) (h0 : 1 ≤ (gi 69 22).toInt) (h4 : (gi 77 ((gi 69 22).toInt.toNat - 1)).toInt ≠ 40) : (gi 77 ((gi 69 22).toInt.toNat - 1)).toInt = 18 ∨ (gi 77 ((gi 69 22).toInt.toNat - 1)).toInt = 19 := by
  obtain ⟨k, hk⟩ : ∃ k, (gi 69 22).toInt.toNat = k + 1 := ⟨(gi 69 22).toInt.toNat - 1, by omega⟩
  have m := h.2.2
  rw [hk] at m ⊢
  rw [hk] at h4
  rw [show k + 1 - 1 = k by omega] at h4 ⊢
  have h20 := m.p20 hp
  have h1 := m.1.1 k (by omega)
  omega
/-- no not on top -/
theorem t_MC.n20 (h : t_MC b n q c T gi) (h1 : 1 ≤ (gi 69 22).toInt → (gi 77 ((gi 69 22).toInt.toNat - 1)).toInt ≠ 20) (h0 : 0 ≤ (gi 69 22).toInt) : s_pop T = T := by
  have m := h.2.2
  by_cases hz : (gi 69 22).toInt = 0
  · rw [hz] at m; rw [m.e0]; rfl
  · obtain ⟨k, hk⟩ : ∃ k, (gi 69 22).toInt.toNat = k + 1 := ⟨(gi 69 22).toInt.toNat - 1, by omega⟩
    have h2 := h1 (by omega)
    rw [hk] at m h2
    rw [show k + 1 - 1 = k by omega] at h2
    exact m.n20 h2
/-- within a bracket, or not -/
theorem t_MC.ex (h : t_MC b n q c T gi) (hp : s_pop T = T) (he : t_ex gi) : T ≠ [] := (h.2.2.wi hp).mp (he.elim fun j hj => ⟨j, by omega, hj.2⟩)
theorem t_MC.nx (h : t_MC b n q c T gi) (hp : s_pop T = T) (he : t_n40 gi) (h0 : 0 ≤ (gi 69 22).toInt) : T = [] := by
  by_cases hT : T = []
  · exact hT
  · obtain ⟨i, hi, hv⟩ := (h.2.2.wi hp).mpr hT
    exact absurd hv (he i (by omega))
/-- one more -/
theorem t_MC.ps (h : t_MC b n q c T gi) {v : Int32} (hv : v.toInt = 20 ∨ v.toInt = 40) (h0 : 0 ≤ (gi 69 22).toInt) (f : t_fM gi g1) (e24 : (g1 69 24).toInt = (gi 69 24).toInt) (e23 : (g1 69 23).toInt = (gi 69 23).toInt + 1) (e22 : (g1 69 22).toInt = (gi 69 22).toInt + 1) (ho : (∀ j, j ≠ (gi 69 22).toInt.toNat → g1 77 j = gi 77 j) ∧ g1 77 (gi 69 22).toInt.toNat = v) : t_MC b n q c (v.toInt :: T) g1 := by
  refine ⟨⟨h.1.1.fM f, h.1.2.fM f⟩, ⟨h.2.1.1, e24.trans h.2.1.2.1, ?_⟩, ?_⟩
  · rw [e23, h.2.1.2.2, List.length_cons]; omega
  · rw [show (g1 69 22).toInt.toNat = (gi 69 22).toInt.toNat + 1 by omega]
    refine h.2.2.push (fun j => ?_) hv
    by_cases hj : j = (gi 69 22).toInt.toNat
    · rw [if_pos hj, hj]; exact ho.2
    · rw [if_neg hj]; exact ho.1 j hj
theorem t_MC.psj (h : t_MC b n q c T gi) (hp : s_pop T = T) {v : Int32} (hv : v.toInt = 18 ∨ v.toInt = 19) (h0 : 0 ≤ (gi 69 22).toInt) (f : t_fM gi g1) (e24 : (g1 69 24).toInt = (gi 69 24).toInt) (e23 : (g1 69 23).toInt = (gi 69 23).toInt) (e22 : (g1 69 22).toInt = (gi 69 22).toInt + 1) (ho : (∀ j, j ≠ (gi 69 22).toInt.toNat → g1 77 j = gi 77 j) ∧ g1 77 (gi 69 22).toInt.toNat = v) : t_MC b n q c T g1 := by
  refine ⟨⟨h.1.1.fM f, h.1.2.fM f⟩, ⟨h.2.1.1, e24.trans h.2.1.2.1, e23.trans h.2.1.2.2⟩, ?_⟩
  rw [show (g1 69 22).toInt.toNat = (gi 69 22).toInt.toNat + 1 by omega]
  refine h.2.2.pushj hp (fun j => ?_) hv
  by_cases hj : j = (gi 69 22).toInt.toNat
  · rw [if_pos hj, hj]; exact ho.2
  · rw [if_neg hj]; exact ho.1 j hj
/-- the pile laid anew -/
theorem t_MC_0 (ht : t_TM b n q gi) (hf : t_MF gi 0 (-1)) (hn : n ≤ 300) (hc : (gi 69 24).toInt = (c : Int)) (f : t_fM gi g1) (e24 : (g1 69 24).toInt = (gi 69 24).toInt) (e23 : (g1 69 23).toInt = 0) (e22 : (g1 69 22).toInt = 0) : t_MC b n q c [] g1 :=
  ⟨⟨ht.fM f, hf.fM f⟩, ⟨hn, e24.trans hc, e23⟩, by rw [e22]; exact t_MT_0⟩
/-- the keywords told by their numbers -/
theorem s_mi_i {i : Nat} (hi : i < 27) (h : s_mi (s_W b n q) = s_mil.getD i 0) : s_W b n q = some i := (s_mi_W hi).mp h
theorem s_mi_ne {i : Nat} (hi : i < 27) (h : s_mi (s_W b n q) ≠ s_mil.getD i 0) : s_W b n q ≠ some i := fun hh => h ((s_mi_W hi).mpr hh)
theorem s_opn_mi : s_opn b n q ↔ s_mi (s_W b n q) = 15 ∨ s_mi (s_W b n q) = 16 :=
  ⟨fun h => h.imp (fun x => (s_mi_W (by decide)).mpr x) (fun x => (s_mi_W (by decide)).mpr x), fun h => h.imp (fun x => s_mi_i (by decide) x) (fun x => s_mi_i (by decide) x)⟩
theorem s_jnd_mi : s_jnd b n q ↔ s_mi (s_W b n q) = 18 ∨ s_mi (s_W b n q) = 19 :=
  ⟨fun h => h.imp (fun x => (s_mi_W (by decide)).mpr x) (fun x => (s_mi_W (by decide)).mpr x), fun h => h.imp (fun x => s_mi_i (by decide) x) (fun x => s_mi_i (by decide) x)⟩
theorem s_fct_mi : s_fct b n q ↔ (s_mi (s_W b n q) = 15 ∨ s_mi (s_W b n q) = 16) ∨ (22 ≤ s_mi (s_W b n q) ∧ s_mi (s_W b n q) ≤ 26) := by
  have k (i : Nat) (hi : i < 27) : s_W b n q = some i ↔ s_mi (s_W b n q) = s_mil.getD i 0 := (s_mi_W hi).symm
  unfold s_fct
  rw [s_opn_mi, k 22 (by decide), k 23 (by decide), k 24 (by decide), k 25 (by decide), k 26 (by decide)]
  show (_ ∨ s_mi (s_W b n q) = 22 ∨ s_mi (s_W b n q) = 23 ∨ s_mi (s_W b n q) = 24 ∨ s_mi (s_W b n q) = 25 ∨ s_mi (s_W b n q) = 26) ↔ _
  omega
theorem s_nst_mi : s_nst b n q ↔ s_mi (s_W b n q) = 20 ∨ s_isS b n q 40 := or_congr_left ⟨fun h => (s_mi_W (by decide)).mpr h, fun h => s_mi_i (by decide) h⟩
theorem s_act_mi : (s_W b n q = some 15 ∨ s_W b n q = some 16 ∨ s_W b n q = some 17) ↔ 15 ≤ s_mi (s_W b n q) ∧ s_mi (s_W b n q) ≤ 17 := by
  have k (i : Nat) (hi : i < 27) : s_W b n q = some i ↔ s_mi (s_W b n q) = s_mil.getD i 0 := (s_mi_W hi).symm
  rw [k 15 (by decide), k 16 (by decide), k 17 (by decide)]
  show (s_mi (s_W b n q) = 15 ∨ s_mi (s_W b n q) = 16 ∨ s_mi (s_W b n q) = 17) ↔ _
  omega
end TMC
/-! ===== printed by riv.py: the RULES of the other side ===== -/
noncomputable def Q_n_aheadB (gi : Nat → Nat → Int32) (gl : Nat → Nat → Int64) (gr : Nat → Nat → Value) : (Nat → Nat → Int32) → (Nat → Nat → Int64) → (Nat → Nat → Value) → Prop := fun (gi2 : Nat → Nat → Int32) (gl2 : Nat → Nat → Int64) (gr2 : Nat → Nat → Value) => ((gi 69 14).toInt ≤ (gi2 69 14).toInt ∧ ((gi2 69 12).toInt ≠ 0 → (gi 69 14).toInt < (gi2 69 14).toInt) ∧ ((gi2 69 12).toInt = 3 → 0 ≤ (gi2 69 15).toInt)) ∧ (∀ (b : Nat → Int32) (n q : Nat), t_Sm b n q gi → t_TM b n q gi2)
theorem c_n_aheadB {X : x_Ext} {d : Nat} {sh : List (Nat ⊕ (Nat × Nat))} {gi : Nat → Nat → Int32} {gl : Nat → Nat → Int64} {gr : Nat → Nat → Value} (hI : t_I sh gi gr) : x_Me X (d + 2) n_X12_ahead [.ref 69] (sh, gi, gl, gr) (t_PN wl_m_ahead2 sh gi gl gr (Q_n_aheadB gi gl gr)) := by
  refine ((x_Me.up (c_m_ahead2 (X := X) (d := d) (gl := gl) hI ) (by omega)).and (x_Me.up (c_n_ahead (X := X) (d := d) (gl := gl) hI ) (by omega))).mono ?_
  rintro v G' ⟨⟨g1, l1, r1, rfl, k1, k2, rfl, k5⟩, g2, l2, r2, e, _, _, _, q⟩
  cases e
  exact ⟨g1, l1, r1, rfl, k1, k2, rfl, k5, q⟩
noncomputable def wl_n_turnsRound : List (Nat × Nat) := [(69, 22), (69, 23), (69, 25), (70, 154011750)]
noncomputable def Q_n_turnsRound (gi : Nat → Nat → Int32) (gl : Nat → Nat → Int64) (gr : Nat → Nat → Value) (b : Nat → Int32) : (Nat → Nat → Int32) → (Nat → Nat → Int64) → (Nat → Nat → Value) → Prop := fun (gi2 : Nat → Nat → Int32) (gl2 : Nat → Nat → Int64) (gr2 : Nat → Nat → Value) => (∀ (b : Nat → Int32) (n q c : Nat) (T : List Int), t_MC b n q c T gi → t_MC b n q c (s_pop T) gi2)
theorem c_n_turnsRound {X : x_Ext} {d : Nat} {sh : List (Nat ⊕ (Nat × Nat))} {gi : Nat → Nat → Int32} {gl : Nat → Nat → Int64} {gr : Nat → Nat → Value} (hI : t_I sh gi gr) {b : Nat → Int32} (e_p0 : t_K b gi 1) : x_Me X (d + 3) n_X12_turnsRound [.ref 69] (sh, gi, gl, gr) (t_PN wl_n_turnsRound sh gi gl gr (Q_n_turnsRound gi gl gr b)) := by
  have hX : t_X wl_n_turnsRound sh gi gl gr gi gl gr := t_X.rf
  refine me_i f_X12_turnsRound (hI.wf.s rfl) rfl rfl rfl ?_
  obtain ⟨l1, u1⟩ := hI.b (hI.wf.s (k := 69) rfl) (t_bdK rfl : t_bd 11 22 = some (0, 60))
  obtain ⟨l2, u2⟩ := hI.b (hI.wf.s (k := 69) rfl) (t_bdK rfl : t_bd 11 23 = some (0, 6))
  obtain ⟨l3, u3⟩ := hI.b (hI.wf.s (k := 69) rfl) (t_bdK rfl : t_bd 11 24 = some (0, 24))
  obtain ⟨l4, u4⟩ := hI.b (hI.wf.s (k := 69) rfl) (t_bdK rfl : t_bd 11 25 = some (0, 210))
  have L5 : ∀ (m5 : Nat) (gi5 : Nat → Nat → Int32) (gl5 : Nat → Nat → Int64) (gr5 : Nat → Nat → Value), t_I sh gi5 gr5 → t_X wl_n_turnsRound sh gi gl gr gi5 gl5 gr5 → gi5 69 24 = (gi 69 24) → t_K b gi5 1 → (∀ (b : Nat → Int32) (n q c : Nat) (T : List Int), t_MC b n q c T gi → ∃ T2, s_pop T2 = s_pop T ∧ t_MC b n q c T2 gi5) → (gi5 69 22).toInt.toNat = m5 → x_Ev X (d + 3) n_X12_turnsRound 0 [(0, .ref 69)] [] (sh, gi5, gl5, gr5) (t_PN wl_n_turnsRound sh gi gl gr (Q_n_turnsRound gi gl gr b)) := by
    intro m5
    induction m5 using Nat.strongRecOn with
    | _ m5 ih5 =>
    intro gi5 gl5 gr5 hI hX c5_0 j5_0 j5_1 hm5
    have cf5_0 : (gi5 69 24).toInt = (gi 69 24).toInt := congrArg Int32.toInt c5_0
    obtain ⟨l6, u6⟩ := hI.b (hI.wf.s (k := 69) rfl) (t_bdK rfl : t_bd 11 22 = some (0, 60))
    obtain ⟨l7, u7⟩ := hI.b (hI.wf.s (k := 69) rfl) (t_bdK rfl : t_bd 11 23 = some (0, 6))
    obtain ⟨l8, u8⟩ := hI.b (hI.wf.s (k := 69) rfl) (t_bdK rfl : t_bd 11 25 = some (0, 210))
    refine ev_loc f_X12_turnsRound (nx := 1) rfl rfl rfl rfl ?_
    refine ev_bp f_X12_turnsRound (nx := 3) (v := 20) rfl (by decide) rfl ?_
    refine ev_inV2 f_X12_turnsRound (nx := 6) (lo2 := [(0, .ref 69), (1, .int 20)]) rfl rfl rfl rfl f_X12_isDoing (hI.wf.s rfl) rfl rfl rfl rfl rfl ?_
    refine ev_loc f_X12_isDoing (nx := 1) rfl rfl rfl rfl ?_
    refine ev_gvI f_X12_isDoing (nx := 4) (w := (gi5 69 22)) rfl (hI.wf.s rfl) rfl rfl rfl rfl ?_
    refine ev_if f_X12_isDoing (t1 := 26) (t2 := 7) rfl rfl rfl (fun h9 => ?_) (fun h9 => ?_)
    · have u10 : (gi5 69 22).toInt ≤ 0 := t_leu h9 (by decide : (0:Int32).toInt ≤ (0:Int))
      refine ev_ic f_X12_isDoing (nx := 27) (v := 0) rfl (by decide) rfl ?_
      refine ev_retK1 f_X12_isDoing rfl rfl rfl ?_
      refine ev_t f_X12_turnsRound (t1 := 26) (t2 := 9) rfl rfl rfl (by decide) ?_
      exact ev_ret f_X12_turnsRound rfl rfl rfl ⟨_, _, _, rfl, hI, hX, ⟨rfl, (show (∀ (b : Nat → Int32) (n q c : Nat) (T : List Int), t_MC b n q c T gi → t_MC b n q c (s_pop T) gi5) from (fun b n q c T h => (by
                                                            obtain ⟨T2, hp, hm⟩ := j5_1 b n q c T h
                                                            have h0 := (t_K_num j5_0).1
                                                            have h2 := hm.n20 (fun hh => absurd hh (by omega)) (by omega)
                                                            rw [← hp, h2]; exact hm)))⟩⟩
    · have l11 : 1 ≤ (gi5 69 22).toInt := t_ltl (t_nle h9) (by decide : (0:Int) ≤ (0:Int32).toInt) rfl
      refine ev_loc f_X12_isDoing (nx := 8) rfl rfl rfl rfl ?_
      refine ev_getR f_X12_isDoing (nx := 11) rfl (hI.wf.s rfl) rfl rfl (hI.wf.r rfl) rfl rfl ?_
      refine ev_loc f_X12_isDoing (nx := 12) rfl rfl rfl rfl ?_
      refine ev_gvI f_X12_isDoing (nx := 15) (w := (gi5 69 22)) rfl (hI.wf.s rfl) rfl rfl rfl rfl ?_
      refine ev_ic f_X12_isDoing (nx := 16) (v := 1) rfl (by decide) rfl ?_
      refine ev_subC f_X12_isDoing (nx := 17) (c := 1) (l := 0) (u := 59) rfl (by decide) l11 u6 rfl rfl (by decide) (by decide) rfl (fun z12 e12 l12 u12 => ?_)
      refine ev_ialdT f_X12_isDoing (nx := 18) rfl (hI.wf.s rfl) l12 (by decide) u12 (by decide) rfl (fun w13 e13 => ?_)
      refine ev_loc f_X12_isDoing (nx := 19) rfl rfl rfl rfl ?_
      refine ev_if f_X12_isDoing (t1 := 22) (t2 := 26) rfl rfl rfl (fun h14 => ?_) (fun h14 => ?_)
      · have u15 : w13.toInt ≤ 20 := t_equ h14 (by decide : (20:Int32).toInt ≤ (20:Int))
        have l16 : 20 ≤ w13.toInt := t_eql h14 (by decide : (20:Int) ≤ (20:Int32).toInt)
        refine ev_ic f_X12_isDoing (nx := 23) (v := 1) rfl (by decide) rfl ?_
        refine ev_jmp f_X12_isDoing (nx := 27) rfl rfl rfl ?_
        refine ev_retK1 f_X12_isDoing rfl rfl rfl ?_
        refine ev_f f_X12_turnsRound (t1 := 26) (t2 := 9) rfl rfl rfl (by decide) ?_
        refine ev_loc f_X12_turnsRound (nx := 10) rfl rfl rfl rfl ?_
        refine ev_inV1 f_X12_turnsRound (nx := 13) (lo2 := [(0, .ref 69)]) rfl rfl rfl rfl f_X12_joins (hI.wf.s rfl) rfl rfl rfl rfl rfl ?_
        have kn17 := t_K_num j5_0
        refine ev_loc f_X12_joins (nx := 1) rfl rfl rfl rfl ?_
        refine ev_alu f_X12_joins (nx := 2) rfl rfl rfl rfl ?_
        refine ev_gvI f_X12_joins (nx := 5) (w := (gi5 69 22)) rfl (hI.wf.s rfl) rfl rfl rfl rfl ?_
        refine ev_ic f_X12_joins (nx := 6) (v := 1) rfl (by decide) rfl ?_
        refine ev_subC f_X12_joins (nx := 7) (c := 1) (l := 0) (u := 59) rfl (by decide) l11 u6 rfl rfl (by decide) (by decide) rfl (fun z18 e18 l18 u18 => ?_)
        refine ev_putIT f_X12_joins (nx := 10) rfl (hI.wf.s rfl) rfl rfl rfl (hI.putB (hI.wf.s rfl) rfl rfl l18 (by decide) u18 (by decide)) (hX.upI rfl) (fun g19 e19 hI hX => ?_)
        refine ev_loc f_X12_joins (nx := 11) rfl rfl rfl rfl ?_
        refine ev_loc f_X12_joins (nx := 12) rfl rfl rfl rfl ?_
        refine ev_getR f_X12_joins (nx := 15) rfl (hI.wf.s rfl) rfl rfl (hI.wf.r rfl) rfl rfl ?_
        refine ev_loc f_X12_joins (nx := 16) rfl rfl rfl rfl ?_
        refine ev_gvI f_X12_joins (nx := 19) (w := z18) rfl (hI.wf.s rfl) rfl rfl (by rw [e19]; exact x_up2_at _ _ _ _ : g19 69 22 = z18) rfl ?_
        refine ev_ialdT f_X12_joins (nx := 20) rfl (hI.wf.s rfl) l18 (by decide) u18 (by decide) rfl (fun w20 e20 => ?_)
        refine ev_inV2 f_X12_joins (nx := 23) (lo2 := [(0, .ref 69), (1, .int w20)]) rfl rfl rfl rfl f_X12_asksAlso (hI.wf.s rfl) rfl rfl rfl rfl rfl ?_
        have kn21 := t_K_num j5_0
        refine ev_loc f_X12_asksAlso (nx := 1) rfl rfl rfl rfl ?_
        refine ev_getR f_X12_asksAlso (nx := 4) rfl (hI.wf.s rfl) rfl rfl (hI.wf.r rfl) rfl rfl ?_
        refine ev_sp f_X12_asksAlso (nx := 7) (v := 1540) rfl (by decide) rfl ?_
        refine ev_loc f_X12_asksAlso (nx := 8) rfl rfl rfl rfl ?_
        refine ev_gvI f_X12_asksAlso (nx := 11) (w := (gi5 69 25)) rfl (hI.wf.s rfl) rfl rfl ((by rw [e19]; exact x_up2_off (Or.inr (by decide)) : g19 69 25 = gi5 69 25).trans rfl) rfl ?_
        refine ev_addK f_X12_asksAlso (nx := 12) (c := 1540) (l := 1540) (u := 1750) rfl (by decide) l8 u8 rfl rfl (by decide) (by decide) rfl (fun z22 e22 l22 u22 => ?_)
        refine ev_loc f_X12_asksAlso (nx := 13) rfl rfl rfl rfl ?_
        refine ev_iastT f_X12_asksAlso (nx := 14) rfl (hI.wf.s rfl) l22 (by decide) u22 (by decide) rfl (hI.astL (hI.wf.s rfl) (by decide +kernel : t_abw 70 1540 1750 (-2147483648) 2147483647 = true) (t_cl1 l22 (by decide)) (t_cl2 l22 u22 (by decide) (by decide)) (t_lo w20) (t_hi w20) rfl) (hX.upI (t_inR (p := 1540) (m := 1750) rfl l22 (by decide) u22 (by decide) (by decide))) (fun g23 e23 hI hX => ?_)
        refine ev_loc f_X12_asksAlso (nx := 15) rfl rfl rfl rfl ?_
        refine ev_alu f_X12_asksAlso (nx := 16) rfl rfl rfl rfl ?_
        refine ev_gvI f_X12_asksAlso (nx := 19) (w := (gi5 69 25)) rfl (hI.wf.s rfl) rfl rfl ((by rw [e23]; exact x_up2_off (Or.inl (by decide)) : g23 69 25 = g19 69 25).trans ((by rw [e19]; exact x_up2_off (Or.inr (by decide)) : g19 69 25 = gi5 69 25).trans rfl)) rfl ?_
        refine ev_ic f_X12_asksAlso (nx := 20) (v := 1) rfl (by decide) rfl ?_
        refine ev_addC f_X12_asksAlso (nx := 21) (c := 1) (l := 1) (u := 211) rfl (by decide) l8 u8 rfl rfl (by decide) (by decide) rfl (fun z24 e24 l24 u24 => ?_)
        have u26 : z24.toInt ≤ (210:Int) := (by omega)
        refine ev_putIT f_X12_asksAlso (nx := 24) rfl (hI.wf.s rfl) rfl rfl rfl (hI.putB (hI.wf.s rfl) rfl rfl l24 (by decide) u26 (by decide)) (hX.upI rfl) (fun g25 e25 hI hX => ?_)
        refine ev_retK0 f_X12_asksAlso rfl rfl rfl ?_
        refine ev_retK0 f_X12_joins rfl rfl rfl ?_
        refine ev_loc f_X12_turnsRound (nx := 14) rfl rfl rfl rfl ?_
        refine ev_alu f_X12_turnsRound (nx := 15) rfl rfl rfl rfl ?_
        refine ev_gvI f_X12_turnsRound (nx := 18) (w := (gi5 69 23)) rfl (hI.wf.s rfl) rfl rfl ((by rw [e25]; exact x_up2_off (Or.inr (by decide)) : g25 69 23 = g23 69 23).trans ((by rw [e23]; exact x_up2_off (Or.inl (by decide)) : g23 69 23 = g19 69 23).trans ((by rw [e19]; exact x_up2_off (Or.inr (by decide)) : g19 69 23 = gi5 69 23).trans rfl))) rfl ?_
        refine ev_ic f_X12_turnsRound (nx := 19) (v := 1) rfl (by decide) rfl ?_
        refine ev_subC f_X12_turnsRound (nx := 20) (c := 1) (l := (-1)) (u := 5) rfl (by decide) l7 u7 rfl rfl (by decide) (by decide) rfl (fun z27 e27 l27 u27 => ?_)
        have l29 : (0:Int) ≤ z27.toInt := (by have hw := t_K_w j5_0 (by omega) (by rw [← (by rw [e13]; have hc := t_clamp (i := z12) (by omega); have hx : z12.toNatClampNeg = (gi5 69 22).toInt.toNat - 1 := (by omega); rw [hx] : w13 = gi5 77 ((gi5 69 22).toInt.toNat - 1))]; omega); omega)
        refine ev_putIT f_X12_turnsRound (nx := 23) rfl (hI.wf.s rfl) rfl rfl rfl (hI.putB (hI.wf.s rfl) rfl rfl l29 (by decide) u27 (by decide)) (hX.upI rfl) (fun g28 e28 hI hX => ?_)
        refine ev_jmp f_X12_turnsRound (nx := 0) rfl rfl rfl ?_
        refine ev_sub (lo := [(0, .ref 69)]) rfl (t_sc rfl t_sn) ?_
        exact ih5 _ (by have ff37 : (g28 69 22).toInt = z18.toInt := congrArg Int32.toInt ((by rw [e28]; exact x_up2_off (Or.inr (by decide)) : g28 69 22 = g25 69 22).trans ((by rw [e25]; exact x_up2_off (Or.inr (by decide)) : g25 69 22 = g23 69 22).trans ((by rw [e23]; exact x_up2_off (Or.inl (by decide)) : g23 69 22 = g19 69 22).trans (by rw [e19]; exact x_up2_at _ _ _ _ : g19 69 22 = z18)))); omega) g28 gl5 gr5  hI hX  ((by rw [e28]; exact x_up2_off (Or.inr (by decide)) : g28 69 24 = g25 69 24).trans ((by rw [e25]; exact x_up2_off (Or.inr (by decide)) : g25 69 24 = g23 69 24).trans ((by rw [e23]; exact x_up2_off (Or.inl (by decide)) : g23 69 24 = g19 69 24).trans ((by rw [e19]; exact x_up2_off (Or.inr (by decide)) : g19 69 24 = gi5 69 24).trans c5_0)))) (by have ht := (by rw [e20]; have hc := t_clamp (i := z18) (by omega); have hx : z18.toNatClampNeg = (gi5 69 22).toInt.toNat - 1 := (by omega); rw [hx]; exact congrFun (((by rw [e19]; exact x_up2_ne (by decide) : g19 77 = gi5 77))) _ : w20 = gi5 77 ((gi5 69 22).toInt.toNat - 1)); have ho := (t_one (p := 1540 + (gi5 69 25).toInt.toNat) ((by rw [e19]; exact x_up2_ne (by decide) : g19 70 = gi5 70)) e23 ((by rw [e28]; exact x_up2_ne (by decide) : g28 70 = g25 70).trans ((by rw [e25]; exact x_up2_ne (by decide) : g25 70 = g23 70))) (by have hc := t_clamp (i := z22) (by omega); omega)); exact t_K_not j5_0 (by omega) (by rw [← (by rw [e13]; have hc := t_clamp (i := z12) (by omega); have hx : z12.toNatClampNeg = (gi5 69 22).toInt.toNat - 1 := (by omega); rw [hx] : w13 = gi5 77 ((gi5 69 22).toInt.toNat - 1))]; omega) (show (g28 69 22).toInt = (gi5 69 22).toInt - 1 from (by have ff30 : (g28 69 22).toInt = z18.toInt := congrArg Int32.toInt ((by rw [e28]; exact x_up2_off (Or.inr (by decide)) : g28 69 22 = g25 69 22).trans ((by rw [e25]; exact x_up2_off (Or.inr (by decide)) : g25 69 22 = g23 69 22).trans ((by rw [e23]; exact x_up2_off (Or.inl (by decide)) : g23 69 22 = g19 69 22).trans (by rw [e19]; exact x_up2_at _ _ _ _ : g19 69 22 = z18)))); omega)) (show (g28 69 23).toInt = (gi5 69 23).toInt - 1 from (by have ff31 : (g28 69 23).toInt = z27.toInt := congrArg Int32.toInt (by rw [e28]; exact x_up2_at _ _ _ _ : g28 69 23 = z27); omega)) (show (g28 69 24).toInt = (gi5 69 24).toInt from (by have ff32 : (g28 69 24).toInt = (gi 69 24).toInt := congrArg Int32.toInt ((by rw [e28]; exact x_up2_off (Or.inr (by decide)) : g28 69 24 = g25 69 24).trans ((by rw [e25]; exact x_up2_off (Or.inr (by decide)) : g25 69 24 = g23 69 24).trans ((by rw [e23]; exact x_up2_off (Or.inl (by decide)) : g23 69 24 = g19 69 24).trans ((by rw [e19]; exact x_up2_off (Or.inr (by decide)) : g19 69 24 = gi5 69 24).trans c5_0)))); omega)) (show (g28 69 25).toInt = (gi5 69 25).toInt + 1 from (by have ff33 : (g28 69 25).toInt = z24.toInt := congrArg Int32.toInt ((by rw [e28]; exact x_up2_off (Or.inr (by decide)) : g28 69 25 = g25 69 25).trans (by rw [e25]; exact x_up2_at _ _ _ _ : g25 69 25 = z24)); omega)) ((by rw [e28]; exact x_up2_ne (by decide) : g28 77 = g25 77).trans ((by rw [e25]; exact x_up2_ne (by decide) : g25 77 = g23 77).trans ((by rw [e23]; exact x_up2_ne (by decide) : g23 77 = g19 77).trans ((by rw [e19]; exact x_up2_ne (by decide) : g19 77 = gi5 77))))) ho.1 (ho.2.trans ht)) (fun b n q c T h => (by
                                                            obtain ⟨T2, hp, hm⟩ := j5_1 b n q c T h
                                                            obtain ⟨T3, eT, hm3⟩ := hm.po (x := 20) (Or.inl rfl) (by omega) (by rw [← (by rw [e13]; have hc := t_clamp (i := z12) (by omega); have hx : z12.toNatClampNeg = (gi5 69 22).toInt.toNat - 1 := (by omega); rw [hx] : w13 = gi5 77 ((gi5 69 22).toInt.toNat - 1))]; omega) ((((t_fM.rf.u9 (by decide) e19).ux (by decide) e23).u9 (by decide) e25).u9 (by decide) e28) (show (g28 69 24).toInt = (gi5 69 24).toInt from (by have ff34 : (g28 69 24).toInt = (gi 69 24).toInt := congrArg Int32.toInt ((by rw [e28]; exact x_up2_off (Or.inr (by decide)) : g28 69 24 = g25 69 24).trans ((by rw [e25]; exact x_up2_off (Or.inr (by decide)) : g25 69 24 = g23 69 24).trans ((by rw [e23]; exact x_up2_off (Or.inl (by decide)) : g23 69 24 = g19 69 24).trans ((by rw [e19]; exact x_up2_off (Or.inr (by decide)) : g19 69 24 = gi5 69 24).trans c5_0)))); omega)) (show (g28 69 23).toInt = (gi5 69 23).toInt - 1 from (by have ff35 : (g28 69 23).toInt = z27.toInt := congrArg Int32.toInt (by rw [e28]; exact x_up2_at _ _ _ _ : g28 69 23 = z27); omega)) (show (g28 69 22).toInt = (gi5 69 22).toInt - 1 from (by have ff36 : (g28 69 22).toInt = z18.toInt := congrArg Int32.toInt ((by rw [e28]; exact x_up2_off (Or.inr (by decide)) : g28 69 22 = g25 69 22).trans ((by rw [e25]; exact x_up2_off (Or.inr (by decide)) : g25 69 22 = g23 69 22).trans ((by rw [e23]; exact x_up2_off (Or.inl (by decide)) : g23 69 22 = g19 69 22).trans (by rw [e19]; exact x_up2_at _ _ _ _ : g19 69 22 = z18)))); omega)) ((by rw [e28]; exact x_up2_ne (by decide) : g28 77 = g25 77).trans ((by rw [e25]; exact x_up2_ne (by decide) : g25 77 = g23 77).trans ((by rw [e23]; exact x_up2_ne (by decide) : g23 77 = g19 77).trans ((by rw [e19]; exact x_up2_ne (by decide) : g19 77 = gi5 77)))))
                                                            exact ⟨T3, by rw [← hp, eT, s_pop20], hm3⟩)) rfl
      · have r38 : w13.toInt ≠ 20 := fun e => h14 (Int32.toInt_inj.mp (e.trans (by decide : (20:Int) = (20 : Int32).toInt)))
        refine ev_ic f_X12_isDoing (nx := 27) (v := 0) rfl (by decide) rfl ?_
        refine ev_retK1 f_X12_isDoing rfl rfl rfl ?_
        refine ev_t f_X12_turnsRound (t1 := 26) (t2 := 9) rfl rfl rfl (by decide) ?_
        exact ev_ret f_X12_turnsRound rfl rfl rfl ⟨_, _, _, rfl, hI, hX, ⟨rfl, (show (∀ (b : Nat → Int32) (n q c : Nat) (T : List Int), t_MC b n q c T gi → t_MC b n q c (s_pop T) gi5) from (fun b n q c T h => (by
                                                            obtain ⟨T2, hp, hm⟩ := j5_1 b n q c T h
                                                            have h0 := (t_K_num j5_0).1
                                                            have h2 := hm.n20 (fun _ => (by rw [← (by rw [e13]; have hc := t_clamp (i := z12) (by omega); have hx : z12.toNatClampNeg = (gi5 69 22).toInt.toNat - 1 := (by omega); rw [hx] : w13 = gi5 77 ((gi5 69 22).toInt.toNat - 1))]; omega)) (by omega)
                                                            rw [← hp, h2]; exact hm)))⟩⟩
  refine ev_sub (lo := [(0, .ref 69)]) rfl (t_sc rfl t_sn) ?_
  exact L5 _ gi gl gr  hI hX  rfl e_p0 (fun b n q c T h => ⟨T, rfl, h⟩) rfl
noncomputable def Q_n_turnsRoundB (gi : Nat → Nat → Int32) (gl : Nat → Nat → Int64) (gr : Nat → Nat → Value) (b : Nat → Int32) : (Nat → Nat → Int32) → (Nat → Nat → Int64) → (Nat → Nat → Value) → Prop := fun (gi2 : Nat → Nat → Int32) (gl2 : Nat → Nat → Int64) (gr2 : Nat → Nat → Value) => (t_K b gi2 2) ∧ ((∀ (b : Nat → Int32) (n q c : Nat) (T : List Int), t_MC b n q c T gi → t_MC b n q c (s_pop T) gi2))
theorem c_n_turnsRoundB {X : x_Ext} {d : Nat} {sh : List (Nat ⊕ (Nat × Nat))} {gi : Nat → Nat → Int32} {gl : Nat → Nat → Int64} {gr : Nat → Nat → Value} (hI : t_I sh gi gr) {b : Nat → Int32} (e_p0 : t_K b gi 1) : x_Me X (d + 3) n_X12_turnsRound [.ref 69] (sh, gi, gl, gr) (t_PN wl_m_turnsRound sh gi gl gr (Q_n_turnsRoundB gi gl gr b)) := by
  refine ((x_Me.up (c_m_turnsRound (X := X) (d := d) (gl := gl) (b := b) hI e_p0) (by omega)).and (x_Me.up (c_n_turnsRound (X := X) (d := d) (gl := gl) (b := b) hI e_p0) (by omega))).mono ?_
  rintro v G' ⟨⟨g1, l1, r1, rfl, k1, k2, rfl, k5⟩, g2, l2, r2, e, _, _, _, q⟩
  cases e
  exact ⟨g1, l1, r1, rfl, k1, k2, rfl, k5, q⟩
/-! ===== printed by riv.py: the RULES of the other side ===== -/
noncomputable def wl_n_aCase : List (Nat × Nat) := [(69, 12), (69, 13), (69, 14), (69, 15), (69, 17), (69, 18), (69, 24), (69, 25), (70, 154011750)]
noncomputable def Q_n_aCase (gi : Nat → Nat → Int32) (gl : Nat → Nat → Int64) (gr : Nat → Nat → Value) (b : Nat → Int32) (ar1 : Int32) : Int32 → (Nat → Nat → Int32) → (Nat → Nat → Int64) → (Nat → Nat → Value) → Prop := fun (v : Int32) (gi2 : Nat → Nat → Int32) (gl2 : Nat → Nat → Int64) (gr2 : Nat → Nat → Value) => (∀ (b : Nat → Int32) (n q c : Nat) (T : List Int), t_MC b n q c T gi → s_fct b n q → ¬ s_nst b n q → s_mi (s_W b n q) = ar1.toInt → (v.toInt = 1 ∧ ∃ q2, q < q2 ∧ s_Cnd b n false q c T = s_Cnd b n true q2 (c + 1) (s_pop T) ∧ t_MC b n q2 (c + 1) T gi2) ∨ (v.toInt = 0 ∧ ∃ p x, x ≠ 0 ∧ s_Cnd b n false q c T = s_qb b n p x ∧ t_MF gi2 (s_fk b n p x) (s_F b n p)))
theorem c_n_aCase {X : x_Ext} {d : Nat} {sh : List (Nat ⊕ (Nat × Nat))} {gi : Nat → Nat → Int32} {gl : Nat → Nat → Int64} {gr : Nat → Nat → Value} (hI : t_I sh gi gr) (ar1 : Int32) (l_a1 : 15 ≤ ar1.toInt) (u_a1 : ar1.toInt ≤ 26) {b : Nat → Int32} (e_p0 : t_K b gi 0) (e_p1 : (ar1.toInt = 15 ∨ ar1.toInt = 16 ∨ 22 ≤ ar1.toInt)) : x_Me X (d + 3) n_X12_aCase [.ref 69, .int ar1] (sh, gi, gl, gr) (t_PI wl_n_aCase sh gi gl gr 0 1 (Q_n_aCase gi gl gr b ar1)) := by
  have hX : t_X wl_n_aCase sh gi gl gr gi gl gr := t_X.rf
  refine me_i f_X12_aCase (hI.wf.s rfl) rfl rfl rfl ?_
  obtain ⟨l2, u2⟩ := hI.b (hI.wf.s (k := 69) rfl) (t_bdK rfl : t_bd 11 22 = some (0, 60))
  obtain ⟨l3, u3⟩ := hI.b (hI.wf.s (k := 69) rfl) (t_bdK rfl : t_bd 11 23 = some (0, 6))
  obtain ⟨l4, u4⟩ := hI.b (hI.wf.s (k := 69) rfl) (t_bdK rfl : t_bd 11 24 = some (0, 24))
  obtain ⟨l5, u5⟩ := hI.b (hI.wf.s (k := 69) rfl) (t_bdK rfl : t_bd 11 25 = some (0, 210))
  refine ev_loc f_X12_aCase (nx := 1) rfl rfl rfl rfl ?_
  refine ev_gvI f_X12_aCase (nx := 4) (w := (gi 69 24)) rfl (hI.wf.s rfl) rfl rfl rfl rfl ?_
  refine ev_bp f_X12_aCase (nx := 6) (v := 24) rfl (by decide) rfl ?_
  refine ev_if f_X12_aCase (t1 := 9) (t2 := 16) rfl rfl rfl (fun h6 => ?_) (fun h6 => ?_)
  · have l7 : 24 ≤ (gi 69 24).toInt := t_eql h6 (by decide : (24:Int) ≤ (24:Int32).toInt)
    refine ev_loc f_X12_aCase (nx := 10) rfl rfl rfl rfl ?_
    refine ev_bp f_X12_aCase (nx := 12) (v := 6) rfl (by decide) rfl ?_
    refine ev_qI f_X12_aCase (nx := 15) (r := []) rfl rfl rfl rfl rfl rfl rfl (c_n_fails hI (6) (Int.le_trans (by decide : (2:Int) ≤ 6) (by decide : (6:Int) ≤ (6:Int32).toInt)) (Int.le_trans (by decide : (6:Int32).toInt ≤ (6:Int)) (by decide : (6:Int) ≤ 7))) rfl hX rfl (fun w8 gi8 gl8 gr8 l8 u8 hI hX hC8 q8 => ?_)
    have q8 : (∀ (b : Nat → Int32) (n q : Nat), t_TM b n q gi → (gi 69 18).toInt = 0 → t_MF gi8 (s_fk b n q 6) (s_F b n q)) ∧ w8.toInt = 0 := q8
    exact ev_retZ f_X12_aCase rfl l8 (Int.le_trans u8 (by decide : (0:Int) ≤ 1)) ⟨_, _, _, rfl, hI, hX, ⟨_, rfl, l8, (Int.le_trans u8 (by decide : (0:Int) ≤ 1)), (show (∀ (b : Nat → Int32) (n q c : Nat) (T : List Int), t_MC b n q c T gi → s_fct b n q → ¬ s_nst b n q → s_mi (s_W b n q) = ar1.toInt → (w8.toInt = 1 ∧ ∃ q2, q < q2 ∧ s_Cnd b n false q c T = s_Cnd b n true q2 (c + 1) (s_pop T) ∧ t_MC b n q2 (c + 1) T gi8) ∨ (w8.toInt = 0 ∧ ∃ p x, x ≠ 0 ∧ s_Cnd b n false q c T = s_qb b n p x ∧ t_MF gi8 (s_fk b n p x) (s_F b n p))) from (fun b n q c T h hf hN hm => (by
                                                            have hq := h.qn
                                                            have hcc := h.2.1.2.1
                                                            have hoo := h.2.1.2.2
                                                            have hn24 := h.2.1.1
                                                            exact Or.inr ⟨q8.2, _, 6, by decide, s_Cnd_m hq hN hf (by omega), q8.1 b n _ h.1.1 h.1.2.1⟩)))⟩⟩
  · have r9 : (gi 69 24).toInt ≠ 24 := fun e => h6 (Int32.toInt_inj.mp (e.trans (by decide : (24:Int) = (24 : Int32).toInt)))
    have u10 : (gi 69 24).toInt ≤ 23 := t_neu h6 u4 rfl rfl
    refine ev_loc f_X12_aCase (nx := 17) rfl rfl rfl rfl ?_
    refine ev_gvI f_X12_aCase (nx := 20) (w := (gi 69 23)) rfl (hI.wf.s rfl) rfl rfl rfl rfl ?_
    refine ev_bp f_X12_aCase (nx := 22) (v := 6) rfl (by decide) rfl ?_
    refine ev_if f_X12_aCase (t1 := 25) (t2 := 32) rfl rfl rfl (fun h11 => ?_) (fun h11 => ?_)
    · have l12 : 6 ≤ (gi 69 23).toInt := t_eql h11 (by decide : (6:Int) ≤ (6:Int32).toInt)
      refine ev_loc f_X12_aCase (nx := 26) rfl rfl rfl rfl ?_
      refine ev_bp f_X12_aCase (nx := 28) (v := 7) rfl (by decide) rfl ?_
      refine ev_qI f_X12_aCase (nx := 31) (r := []) rfl rfl rfl rfl rfl rfl rfl (c_n_fails hI (7) (Int.le_trans (by decide : (2:Int) ≤ 7) (by decide : (7:Int) ≤ (7:Int32).toInt)) (by decide : (7:Int32).toInt ≤ (7:Int))) rfl hX rfl (fun w13 gi13 gl13 gr13 l13 u13 hI hX hC13 q13 => ?_)
      have q13 : (∀ (b : Nat → Int32) (n q : Nat), t_TM b n q gi → (gi 69 18).toInt = 0 → t_MF gi13 (s_fk b n q 7) (s_F b n q)) ∧ w13.toInt = 0 := q13
      exact ev_retZ f_X12_aCase rfl l13 (Int.le_trans u13 (by decide : (0:Int) ≤ 1)) ⟨_, _, _, rfl, hI, hX, ⟨_, rfl, l13, (Int.le_trans u13 (by decide : (0:Int) ≤ 1)), (show (∀ (b : Nat → Int32) (n q c : Nat) (T : List Int), t_MC b n q c T gi → s_fct b n q → ¬ s_nst b n q → s_mi (s_W b n q) = ar1.toInt → (w13.toInt = 1 ∧ ∃ q2, q < q2 ∧ s_Cnd b n false q c T = s_Cnd b n true q2 (c + 1) (s_pop T) ∧ t_MC b n q2 (c + 1) T gi13) ∨ (w13.toInt = 0 ∧ ∃ p x, x ≠ 0 ∧ s_Cnd b n false q c T = s_qb b n p x ∧ t_MF gi13 (s_fk b n p x) (s_F b n p))) from (fun b n q c T h hf hN hm => (by
                                                            have hq := h.qn
                                                            have hcc := h.2.1.2.1
                                                            have hoo := h.2.1.2.2
                                                            have hn24 := h.2.1.1
                                                            exact Or.inr ⟨q13.2, _, 7, by decide, s_Cnd_d hq hN hf (by omega) (by omega), q13.1 b n _ h.1.1 h.1.2.1⟩)))⟩⟩
    · have r14 : (gi 69 23).toInt ≠ 6 := fun e => h11 (Int32.toInt_inj.mp (e.trans (by decide : (6:Int) = (6 : Int32).toInt)))
      have u15 : (gi 69 23).toInt ≤ 5 := t_neu h11 u3 rfl rfl
      refine ev_loc f_X12_aCase (nx := 33) rfl rfl rfl rfl ?_
      refine ev_alu f_X12_aCase (nx := 34) rfl rfl rfl rfl ?_
      refine ev_gvI f_X12_aCase (nx := 37) (w := (gi 69 24)) rfl (hI.wf.s rfl) rfl rfl rfl rfl ?_
      refine ev_ic f_X12_aCase (nx := 38) (v := 1) rfl (by decide) rfl ?_
      refine ev_addC f_X12_aCase (nx := 39) (c := 1) (l := 1) (u := 24) rfl (by decide) l4 u10 rfl rfl (by decide) (by decide) rfl (fun z16 e16 l16 u16 => ?_)
      refine ev_putIT f_X12_aCase (nx := 42) rfl (hI.wf.s rfl) rfl rfl rfl (hI.putB (hI.wf.s rfl) rfl rfl l16 (by decide) u16 (by decide)) (hX.upI rfl) (fun g17 e17 hI hX => ?_)
      refine ev_loc f_X12_aCase (nx := 43) rfl rfl rfl rfl ?_
      refine ev_qN f_X12_aCase (nx := 46) (r := []) rfl rfl rfl rfl rfl rfl rfl (c_n_aheadB hI ) rfl hX rfl (fun gi18 gl18 gr18 hI hX hC18 q18 => ?_)
      have q18 : ((g17 69 14).toInt ≤ (gi18 69 14).toInt ∧ ((gi18 69 12).toInt ≠ 0 → (g17 69 14).toInt < (gi18 69 14).toInt) ∧ ((gi18 69 12).toInt = 3 → 0 ≤ (gi18 69 15).toInt)) ∧ (∀ (b : Nat → Int32) (n q : Nat), t_Sm b n q g17 → t_TM b n q gi18) := q18
      refine ev_loc f_X12_aCase (nx := 47) rfl rfl rfl rfl ?_
      refine ev_bp f_X12_aCase (nx := 49) (v := 15) rfl (by decide) rfl ?_
      refine ev_if f_X12_aCase (t1 := 58) (t2 := 52) rfl rfl rfl (fun h20 => ?_) (fun h20 => ?_)
      · have u21 : ar1.toInt ≤ 15 := t_equ h20 (by decide : (15:Int32).toInt ≤ (15:Int))
        refine ev_loc f_X12_aCase (nx := 59) rfl rfl rfl rfl ?_
        refine ev_loc f_X12_aCase (nx := 60) rfl rfl rfl rfl ?_
        refine ev_inV2 f_X12_aCase (nx := 63) (lo2 := [(0, .ref 69), (1, .int ar1)]) rfl rfl rfl rfl f_X12_asksAlso (hI.wf.s rfl) rfl rfl rfl rfl rfl ?_
        have kn22 := t_K_num e_p0
        refine ev_loc f_X12_asksAlso (nx := 1) rfl rfl rfl rfl ?_
        refine ev_getR f_X12_asksAlso (nx := 4) rfl (hI.wf.s rfl) rfl rfl (hI.wf.r rfl) rfl rfl ?_
        refine ev_sp f_X12_asksAlso (nx := 7) (v := 1540) rfl (by decide) rfl ?_
        refine ev_loc f_X12_asksAlso (nx := 8) rfl rfl rfl rfl ?_
        refine ev_gvI f_X12_asksAlso (nx := 11) (w := (gi 69 25)) rfl (hI.wf.s rfl) rfl rfl ((hC18.1 69 25 rfl).1.trans ((by rw [e17]; exact x_up2_off (Or.inr (by decide)) : g17 69 25 = gi 69 25).trans rfl)) rfl ?_
        refine ev_addK f_X12_asksAlso (nx := 12) (c := 1540) (l := 1540) (u := 1750) rfl (by decide) l5 u5 rfl rfl (by decide) (by decide) rfl (fun z23 e23 l23 u23 => ?_)
        refine ev_loc f_X12_asksAlso (nx := 13) rfl rfl rfl rfl ?_
        refine ev_iastT f_X12_asksAlso (nx := 14) rfl (hI.wf.s rfl) l23 (by decide) u23 (by decide) rfl (hI.astL (hI.wf.s rfl) (by decide +kernel : t_abw 70 1540 1750 15 15 = true) (t_cl1 l23 (by decide)) (t_cl2 l23 u23 (by decide) (by decide)) l_a1 u21 rfl) (hX.upI (t_inR (p := 1540) (m := 1750) rfl l23 (by decide) u23 (by decide) (by decide))) (fun g24 e24 hI hX => ?_)
        refine ev_loc f_X12_asksAlso (nx := 15) rfl rfl rfl rfl ?_
        refine ev_alu f_X12_asksAlso (nx := 16) rfl rfl rfl rfl ?_
        refine ev_gvI f_X12_asksAlso (nx := 19) (w := (gi 69 25)) rfl (hI.wf.s rfl) rfl rfl ((by rw [e24]; exact x_up2_off (Or.inl (by decide)) : g24 69 25 = gi18 69 25).trans ((hC18.1 69 25 rfl).1.trans ((by rw [e17]; exact x_up2_off (Or.inr (by decide)) : g17 69 25 = gi 69 25).trans rfl))) rfl ?_
        refine ev_ic f_X12_asksAlso (nx := 20) (v := 1) rfl (by decide) rfl ?_
        refine ev_addC f_X12_asksAlso (nx := 21) (c := 1) (l := 1) (u := 211) rfl (by decide) l5 u5 rfl rfl (by decide) (by decide) rfl (fun z25 e25 l25 u25 => ?_)
        have u27 : z25.toInt ≤ (210:Int) := (by omega)
        refine ev_putIT f_X12_asksAlso (nx := 24) rfl (hI.wf.s rfl) rfl rfl rfl (hI.putB (hI.wf.s rfl) rfl rfl l25 (by decide) u27 (by decide)) (hX.upI rfl) (fun g26 e26 hI hX => ?_)
        refine ev_retK0 f_X12_asksAlso rfl rfl rfl ?_
        refine ev_ic f_X12_aCase (nx := 64) (v := 1) rfl (by decide) rfl ?_
        exact ev_ret f_X12_aCase rfl rfl rfl ⟨_, _, _, rfl, hI, hX, ⟨_, rfl, (Int.le_trans (by decide : (0:Int) ≤ 1) (by decide : (1:Int) ≤ (1:Int32).toInt)), (by decide : (1:Int32).toInt ≤ (1:Int)), (show (∀ (b : Nat → Int32) (n q c : Nat) (T : List Int), t_MC b n q c T gi → s_fct b n q → ¬ s_nst b n q → s_mi (s_W b n q) = ar1.toInt → ((1 : Int) = 1 ∧ ∃ q2, q < q2 ∧ s_Cnd b n false q c T = s_Cnd b n true q2 (c + 1) (s_pop T) ∧ t_MC b n q2 (c + 1) T g26) ∨ ((1 : Int) = 0 ∧ ∃ p x, x ≠ 0 ∧ s_Cnd b n false q c T = s_qb b n p x ∧ t_MF g26 (s_fk b n p x) (s_F b n p))) from (fun b n q c T h hf hN hm => (by
                                                            have hq := h.qn
                                                            have hcc := h.2.1.2.1
                                                            have hoo := h.2.1.2.2
                                                            have hn24 := h.2.1.1
                                                            have h1 := h.c1 (g1 := g17) (t_fM.rf.u9 (by decide) e17) (by rw [e17, x_up2_at]; omega) (congrArg Int32.toInt (by rw [e17, x_up2_off (Or.inr (by decide))])) (congrArg Int32.toInt (by rw [e17, x_up2_off (Or.inr (by decide))])) (funext fun j => (by rw [e17, x_up2_ne (by decide)]))
                                                            have hX := s_Cnd_s hq hN hf (show ¬ 24 ≤ c by omega) (show T.length ≠ 6 by omega)
                                                            have h2 := h1.ah (q18.2 b n _ h1.1.1.S) ⟨(hC18.1 69 18 rfl).1, (hC18.1 69 17 rfl).1⟩ (congrArg Int32.toInt (hC18.1 69 24 rfl).1) (congrArg Int32.toInt (hC18.1 69 23 rfl).1) (congrArg Int32.toInt (hC18.1 69 22 rfl).1) (funext fun j => (hC18.1 77 j rfl).1)
                                                            have hO : s_opn b n q := s_opn_mi.mpr (by omega)
                                                            have h3 := h2.sm (g1 := g26) ((t_fM.rf.ux (by decide) e24).u9 (by decide) e26) (congrArg Int32.toInt (by rw [e26, x_up2_off (Or.inr (by decide)), e24, x_up2_ne (by decide)])) (congrArg Int32.toInt (by rw [e26, x_up2_off (Or.inr (by decide)), e24, x_up2_ne (by decide)])) (congrArg Int32.toInt (by rw [e26, x_up2_off (Or.inr (by decide)), e24, x_up2_ne (by decide)])) (funext fun j => (by rw [e26, x_up2_ne (by decide), e24, x_up2_ne (by decide)]))
                                                            exact Or.inl ⟨rfl, _, (s_opn_gt hO).1, hX.trans (by unfold s_cse; rw [s_ifT hO]), h3⟩)))⟩⟩
      · have r28 : ar1.toInt ≠ 15 := fun e => h20 (Int32.toInt_inj.mp (e.trans (by decide : (15:Int) = (15 : Int32).toInt)))
        have l29 : 16 ≤ ar1.toInt := t_nel h20 l_a1 rfl rfl
        refine ev_loc f_X12_aCase (nx := 53) rfl rfl rfl rfl ?_
        refine ev_bp f_X12_aCase (nx := 55) (v := 16) rfl (by decide) rfl ?_
        refine ev_if f_X12_aCase (t1 := 58) (t2 := 65) rfl rfl rfl (fun h30 => ?_) (fun h30 => ?_)
        · have u31 : ar1.toInt ≤ 16 := t_equ h30 (by decide : (16:Int32).toInt ≤ (16:Int))
          refine ev_loc f_X12_aCase (nx := 59) rfl rfl rfl rfl ?_
          refine ev_loc f_X12_aCase (nx := 60) rfl rfl rfl rfl ?_
          refine ev_inV2 f_X12_aCase (nx := 63) (lo2 := [(0, .ref 69), (1, .int ar1)]) rfl rfl rfl rfl f_X12_asksAlso (hI.wf.s rfl) rfl rfl rfl rfl rfl ?_
          have kn32 := t_K_num e_p0
          refine ev_loc f_X12_asksAlso (nx := 1) rfl rfl rfl rfl ?_
          refine ev_getR f_X12_asksAlso (nx := 4) rfl (hI.wf.s rfl) rfl rfl (hI.wf.r rfl) rfl rfl ?_
          refine ev_sp f_X12_asksAlso (nx := 7) (v := 1540) rfl (by decide) rfl ?_
          refine ev_loc f_X12_asksAlso (nx := 8) rfl rfl rfl rfl ?_
          refine ev_gvI f_X12_asksAlso (nx := 11) (w := (gi 69 25)) rfl (hI.wf.s rfl) rfl rfl ((hC18.1 69 25 rfl).1.trans ((by rw [e17]; exact x_up2_off (Or.inr (by decide)) : g17 69 25 = gi 69 25).trans rfl)) rfl ?_
          refine ev_addK f_X12_asksAlso (nx := 12) (c := 1540) (l := 1540) (u := 1750) rfl (by decide) l5 u5 rfl rfl (by decide) (by decide) rfl (fun z33 e33 l33 u33 => ?_)
          refine ev_loc f_X12_asksAlso (nx := 13) rfl rfl rfl rfl ?_
          refine ev_iastT f_X12_asksAlso (nx := 14) rfl (hI.wf.s rfl) l33 (by decide) u33 (by decide) rfl (hI.astL (hI.wf.s rfl) (by decide +kernel : t_abw 70 1540 1750 16 16 = true) (t_cl1 l33 (by decide)) (t_cl2 l33 u33 (by decide) (by decide)) l29 u31 rfl) (hX.upI (t_inR (p := 1540) (m := 1750) rfl l33 (by decide) u33 (by decide) (by decide))) (fun g34 e34 hI hX => ?_)
          refine ev_loc f_X12_asksAlso (nx := 15) rfl rfl rfl rfl ?_
          refine ev_alu f_X12_asksAlso (nx := 16) rfl rfl rfl rfl ?_
          refine ev_gvI f_X12_asksAlso (nx := 19) (w := (gi 69 25)) rfl (hI.wf.s rfl) rfl rfl ((by rw [e34]; exact x_up2_off (Or.inl (by decide)) : g34 69 25 = gi18 69 25).trans ((hC18.1 69 25 rfl).1.trans ((by rw [e17]; exact x_up2_off (Or.inr (by decide)) : g17 69 25 = gi 69 25).trans rfl))) rfl ?_
          refine ev_ic f_X12_asksAlso (nx := 20) (v := 1) rfl (by decide) rfl ?_
          refine ev_addC f_X12_asksAlso (nx := 21) (c := 1) (l := 1) (u := 211) rfl (by decide) l5 u5 rfl rfl (by decide) (by decide) rfl (fun z35 e35 l35 u35 => ?_)
          have u37 : z35.toInt ≤ (210:Int) := (by omega)
          refine ev_putIT f_X12_asksAlso (nx := 24) rfl (hI.wf.s rfl) rfl rfl rfl (hI.putB (hI.wf.s rfl) rfl rfl l35 (by decide) u37 (by decide)) (hX.upI rfl) (fun g36 e36 hI hX => ?_)
          refine ev_retK0 f_X12_asksAlso rfl rfl rfl ?_
          refine ev_ic f_X12_aCase (nx := 64) (v := 1) rfl (by decide) rfl ?_
          exact ev_ret f_X12_aCase rfl rfl rfl ⟨_, _, _, rfl, hI, hX, ⟨_, rfl, (Int.le_trans (by decide : (0:Int) ≤ 1) (by decide : (1:Int) ≤ (1:Int32).toInt)), (by decide : (1:Int32).toInt ≤ (1:Int)), (show (∀ (b : Nat → Int32) (n q c : Nat) (T : List Int), t_MC b n q c T gi → s_fct b n q → ¬ s_nst b n q → s_mi (s_W b n q) = ar1.toInt → ((1 : Int) = 1 ∧ ∃ q2, q < q2 ∧ s_Cnd b n false q c T = s_Cnd b n true q2 (c + 1) (s_pop T) ∧ t_MC b n q2 (c + 1) T g36) ∨ ((1 : Int) = 0 ∧ ∃ p x, x ≠ 0 ∧ s_Cnd b n false q c T = s_qb b n p x ∧ t_MF g36 (s_fk b n p x) (s_F b n p))) from (fun b n q c T h hf hN hm => (by
                                                            have hq := h.qn
                                                            have hcc := h.2.1.2.1
                                                            have hoo := h.2.1.2.2
                                                            have hn24 := h.2.1.1
                                                            have h1 := h.c1 (g1 := g17) (t_fM.rf.u9 (by decide) e17) (by rw [e17, x_up2_at]; omega) (congrArg Int32.toInt (by rw [e17, x_up2_off (Or.inr (by decide))])) (congrArg Int32.toInt (by rw [e17, x_up2_off (Or.inr (by decide))])) (funext fun j => (by rw [e17, x_up2_ne (by decide)]))
                                                            have hX := s_Cnd_s hq hN hf (show ¬ 24 ≤ c by omega) (show T.length ≠ 6 by omega)
                                                            have h2 := h1.ah (q18.2 b n _ h1.1.1.S) ⟨(hC18.1 69 18 rfl).1, (hC18.1 69 17 rfl).1⟩ (congrArg Int32.toInt (hC18.1 69 24 rfl).1) (congrArg Int32.toInt (hC18.1 69 23 rfl).1) (congrArg Int32.toInt (hC18.1 69 22 rfl).1) (funext fun j => (hC18.1 77 j rfl).1)
                                                            have hO : s_opn b n q := s_opn_mi.mpr (by omega)
                                                            have h3 := h2.sm (g1 := g36) ((t_fM.rf.ux (by decide) e34).u9 (by decide) e36) (congrArg Int32.toInt (by rw [e36, x_up2_off (Or.inr (by decide)), e34, x_up2_ne (by decide)])) (congrArg Int32.toInt (by rw [e36, x_up2_off (Or.inr (by decide)), e34, x_up2_ne (by decide)])) (congrArg Int32.toInt (by rw [e36, x_up2_off (Or.inr (by decide)), e34, x_up2_ne (by decide)])) (funext fun j => (by rw [e36, x_up2_ne (by decide), e34, x_up2_ne (by decide)]))
                                                            exact Or.inl ⟨rfl, _, (s_opn_gt hO).1, hX.trans (by unfold s_cse; rw [s_ifT hO]), h3⟩)))⟩⟩
        · have r38 : ar1.toInt ≠ 16 := fun e => h30 (Int32.toInt_inj.mp (e.trans (by decide : (16:Int) = (16 : Int32).toInt)))
          have l39 : 17 ≤ ar1.toInt := t_nel h30 l29 rfl rfl
          refine ev_loc f_X12_aCase (nx := 66) rfl rfl rfl rfl ?_
          refine ev_bp f_X12_aCase (nx := 68) (v := 60) rfl (by decide) rfl ?_
          refine ev_qI0 f_X12_aCase (nx := 71) (r := []) rfl rfl rfl rfl rfl rfl rfl (c_n_isSign hI (60)) rfl (fun w40 l40 u40 q40 => ?_)
          have q40 : ∀ (b : Nat → Int32) (n q : Nat), t_TM b n q gi18 → (w40.toInt = 1 ↔ s_isS b n q 60) := q40
          refine ev_if f_X12_aCase (t1 := 74) (t2 := 98) rfl rfl rfl (fun h41 => ?_) (fun h41 => ?_)
          · have u42 : w40.toInt ≤ 0 := t_equ h41 (by decide : (0:Int32).toInt ≤ (0:Int))
            refine ev_loc f_X12_aCase (nx := 75) rfl rfl rfl rfl ?_
            refine ev_bp f_X12_aCase (nx := 77) (v := 62) rfl (by decide) rfl ?_
            refine ev_qI0 f_X12_aCase (nx := 80) (r := []) rfl rfl rfl rfl rfl rfl rfl (c_n_isSign hI (62)) rfl (fun w43 l43 u43 q43 => ?_)
            have q43 : ∀ (b : Nat → Int32) (n q : Nat), t_TM b n q gi18 → (w43.toInt = 1 ↔ s_isS b n q 62) := q43
            refine ev_if f_X12_aCase (t1 := 83) (t2 := 98) rfl rfl rfl (fun h44 => ?_) (fun h44 => ?_)
            · have u45 : w43.toInt ≤ 0 := t_equ h44 (by decide : (0:Int32).toInt ≤ (0:Int))
              refine ev_loc f_X12_aCase (nx := 84) rfl rfl rfl rfl ?_
              refine ev_bp f_X12_aCase (nx := 86) (v := 61) rfl (by decide) rfl ?_
              refine ev_qI0 f_X12_aCase (nx := 89) (r := []) rfl rfl rfl rfl rfl rfl rfl (c_n_isSign hI (61)) rfl (fun w46 l46 u46 q46 => ?_)
              have q46 : ∀ (b : Nat → Int32) (n q : Nat), t_TM b n q gi18 → (w46.toInt = 1 ↔ s_isS b n q 61) := q46
              refine ev_if f_X12_aCase (t1 := 92) (t2 := 98) rfl rfl rfl (fun h47 => ?_) (fun h47 => ?_)
              · have u48 : w46.toInt ≤ 0 := t_equ h47 (by decide : (0:Int32).toInt ≤ (0:Int))
                refine ev_loc f_X12_aCase (nx := 93) rfl rfl rfl rfl ?_
                refine ev_ic f_X12_aCase (nx := 94) (v := 2) rfl (by decide) rfl ?_
                refine ev_qI f_X12_aCase (nx := 97) (r := []) rfl rfl rfl rfl rfl rfl rfl (c_n_fails hI (2) (by decide : (2:Int) ≤ (2:Int32).toInt) (Int.le_trans (by decide : (2:Int32).toInt ≤ (2:Int)) (by decide : (2:Int) ≤ 7))) rfl hX rfl (fun w49 gi49 gl49 gr49 l49 u49 hI hX hC49 q49 => ?_)
                have q49 : (∀ (b : Nat → Int32) (n q : Nat), t_TM b n q gi18 → (gi18 69 18).toInt = 0 → t_MF gi49 (s_fk b n q 2) (s_F b n q)) ∧ w49.toInt = 0 := q49
                exact ev_retZ f_X12_aCase rfl l49 (Int.le_trans u49 (by decide : (0:Int) ≤ 1)) ⟨_, _, _, rfl, hI, hX, ⟨_, rfl, l49, (Int.le_trans u49 (by decide : (0:Int) ≤ 1)), (show (∀ (b : Nat → Int32) (n q c : Nat) (T : List Int), t_MC b n q c T gi → s_fct b n q → ¬ s_nst b n q → s_mi (s_W b n q) = ar1.toInt → (w49.toInt = 1 ∧ ∃ q2, q < q2 ∧ s_Cnd b n false q c T = s_Cnd b n true q2 (c + 1) (s_pop T) ∧ t_MC b n q2 (c + 1) T gi49) ∨ (w49.toInt = 0 ∧ ∃ p x, x ≠ 0 ∧ s_Cnd b n false q c T = s_qb b n p x ∧ t_MF gi49 (s_fk b n p x) (s_F b n p))) from (fun b n q c T h hf hN hm => (by
                                                            have hq := h.qn
                                                            have hcc := h.2.1.2.1
                                                            have hoo := h.2.1.2.2
                                                            have hn24 := h.2.1.1
                                                            have h1 := h.c1 (g1 := g17) (t_fM.rf.u9 (by decide) e17) (by rw [e17, x_up2_at]; omega) (congrArg Int32.toInt (by rw [e17, x_up2_off (Or.inr (by decide))])) (congrArg Int32.toInt (by rw [e17, x_up2_off (Or.inr (by decide))])) (funext fun j => (by rw [e17, x_up2_ne (by decide)]))
                                                            have hX := s_Cnd_s hq hN hf (show ¬ 24 ≤ c by omega) (show T.length ≠ 6 by omega)
                                                            have h2 := h1.ah (q18.2 b n _ h1.1.1.S) ⟨(hC18.1 69 18 rfl).1, (hC18.1 69 17 rfl).1⟩ (congrArg Int32.toInt (hC18.1 69 24 rfl).1) (congrArg Int32.toInt (hC18.1 69 23 rfl).1) (congrArg Int32.toInt (hC18.1 69 22 rfl).1) (funext fun j => (hC18.1 77 j rfl).1)
                                                            have hO : ¬ s_opn b n q := fun hh => by have := s_opn_mi.mp hh; omega
                                                            have hg := s_fct_gt hf
                                                            have hC : ¬ s_cmp b n (s_E b n q) := fun hh => (by
                                                                                rcases hh with x | x | x
                                                                                · exact absurd ((q40 b n _ h2.1.1).mpr x) (by omega)
                                                                                · exact absurd ((q43 b n _ h2.1.1).mpr x) (by omega)
                                                                                · exact absurd ((q46 b n _ h2.1.1).mpr x) (by omega))
                                                            exact Or.inr ⟨q49.2, _, 2, by decide, hX.trans (by unfold s_cse; rw [s_ifF hO, s_ifF hC]), q49.1 b n _ h2.1.1 h2.1.2.1⟩)))⟩⟩
              · have r50 : w46.toInt ≠ 0 := fun e => h47 (Int32.toInt_inj.mp (e.trans (by decide : (0:Int) = (0 : Int32).toInt)))
                have l51 : 1 ≤ w46.toInt := t_nel h47 l46 rfl rfl
                refine ev_loc f_X12_aCase (nx := 99) rfl rfl rfl rfl ?_
                refine ev_bp f_X12_aCase (nx := 101) (v := 60) rfl (by decide) rfl ?_
                refine ev_qI0 f_X12_aCase (nx := 104) (r := []) rfl rfl rfl rfl rfl rfl rfl (c_n_isSign hI (60)) rfl (fun w52 l52 u52 q52 => ?_)
                have q52 : ∀ (b : Nat → Int32) (n q : Nat), t_TM b n q gi18 → (w52.toInt = 1 ↔ s_isS b n q 60) := q52
                refine ev_if f_X12_aCase (t1 := 111) (t2 := 107) rfl rfl rfl (fun h53 => ?_) (fun h53 => ?_)
                · have u54 : w52.toInt ≤ 0 := t_equ h53 (by decide : (0:Int32).toInt ≤ (0:Int))
                  refine ev_loc f_X12_aCase (nx := 112) rfl rfl rfl rfl ?_
                  refine ev_bp f_X12_aCase (nx := 114) (v := 62) rfl (by decide) rfl ?_
                  refine ev_qI0 f_X12_aCase (nx := 117) (r := []) rfl rfl rfl rfl rfl rfl rfl (c_n_isSign hI (62)) rfl (fun w55 l55 u55 q55 => ?_)
                  have q55 : ∀ (b : Nat → Int32) (n q : Nat), t_TM b n q gi18 → (w55.toInt = 1 ↔ s_isS b n q 62) := q55
                  refine ev_if f_X12_aCase (t1 := 124) (t2 := 120) rfl rfl rfl (fun h56 => ?_) (fun h56 => ?_)
                  · have u57 : w55.toInt ≤ 0 := t_equ h56 (by decide : (0:Int32).toInt ≤ (0:Int))
                    refine ev_ic f_X12_aCase (nx := 125) (v := 2) rfl (by decide) rfl ?_
                    refine ev_loc f_X12_aCase (nx := 126) (lo' := [(2, .int 2), (0, .ref 69), (1, .int ar1)]) rfl rfl rfl rfl ?_
                    refine ev_loc f_X12_aCase (nx := 127) rfl rfl rfl rfl ?_
                    refine ev_qN f_X12_aCase (nx := 130) (r := []) rfl rfl rfl rfl rfl rfl rfl (c_n_aheadB hI ) rfl hX rfl (fun gi58 gl58 gr58 hI hX hC58 q58 => ?_)
                    have q58 : ((gi18 69 14).toInt ≤ (gi58 69 14).toInt ∧ ((gi58 69 12).toInt ≠ 0 → (gi18 69 14).toInt < (gi58 69 14).toInt) ∧ ((gi58 69 12).toInt = 3 → 0 ≤ (gi58 69 15).toInt)) ∧ (∀ (b : Nat → Int32) (n q : Nat), t_Sm b n q gi18 → t_TM b n q gi58) := q58
                    refine ev_loc f_X12_aCase (nx := 131) rfl rfl rfl rfl ?_
                    refine ev_getI f_X12_aCase (nx := 134) rfl (hI.wf.s rfl) rfl rfl rfl ?_
                    obtain ⟨l60, u60⟩ := hI.b (hI.wf.s (k := 69) rfl) (t_bdK rfl : t_bd 11 12 = some (0, 4))
                    refine ev_ic f_X12_aCase (nx := 135) (v := 3) rfl (by decide) rfl ?_
                    refine ev_if f_X12_aCase (t1 := 144) (t2 := 138) rfl rfl rfl (fun h61 => ?_) (fun h61 => ?_)
                    · have u62 : (gi58 69 12).toInt ≤ 3 := t_equ h61 (by decide : (3:Int32).toInt ≤ (3:Int))
                      have l63 : 3 ≤ (gi58 69 12).toInt := t_eql h61 (by decide : (3:Int) ≤ (3:Int32).toInt)
                      refine ev_loc f_X12_aCase (nx := 145) rfl rfl rfl rfl ?_
                      refine ev_gvI f_X12_aCase (nx := 148) (w := (gi58 69 15)) rfl (hI.wf.s rfl) rfl rfl rfl rfl ?_
                      refine ev_sp f_X12_aCase (nx := 151) (v := 300) rfl (by decide) rfl ?_
                      refine ev_if f_X12_aCase (t1 := 160) (t2 := 154) rfl rfl rfl (fun h64 => ?_) (fun h64 => ?_)
                      · have u65 : (gi58 69 15).toInt ≤ 300 := t_leu h64 (by decide : (300:Int32).toInt ≤ (300:Int))
                        have l66 : (0:Int) ≤ (gi58 69 15).toInt := by omega
                        refine ev_loc f_X12_aCase (nx := 161) rfl rfl rfl rfl ?_
                        refine ev_ldI f_X12_aCase (nx := 163) (v := 100000) rfl (by decide) rfl ?_
                        refine ev_loc f_X12_aCase (nx := 164) rfl rfl rfl rfl ?_
                        refine ev_mulL f_X12_aCase (nx := 165) (c := 100000) (l := 1700000) (u := 2600000) rfl (by decide) (by decide) l39 u_a1 rfl rfl (by decide) (by decide) rfl (fun z67 e67 l67 u67 => ?_)
                        refine ev_sp f_X12_aCase (nx := 168) (v := 1000) rfl (by decide) rfl ?_
                        refine ev_loc f_X12_aCase (nx := 169) rfl rfl rfl rfl ?_
                        refine ev_aluvI f_X12_aCase (nx := 170) (w := 2000) rfl rfl rfl (by decide) rfl ?_
                        refine ev_addC f_X12_aCase (nx := 171) (c := 2000) (l := 1702000) (u := 2602000) rfl (by decide) l67 u67 rfl rfl (by decide) (by decide) rfl (fun z68 e68 l68 u68 => ?_)
                        refine ev_loc f_X12_aCase (nx := 172) rfl rfl rfl rfl ?_
                        refine ev_gvI f_X12_aCase (nx := 175) (w := (gi58 69 15)) rfl (hI.wf.s rfl) rfl rfl rfl rfl ?_
                        refine ev_addR f_X12_aCase (nx := 176) (l := 1702000) (u := 2602300) rfl l68 u68 l66 u65 rfl rfl (by decide) (by decide) rfl (fun z69 e69 l69 u69 => ?_)
                        refine ev_inV2 f_X12_aCase (nx := 179) (lo2 := [(0, .ref 69), (1, .int z69)]) rfl rfl rfl rfl f_X12_asksAlso (hI.wf.s rfl) rfl rfl rfl rfl rfl ?_
                        have kn70 := t_K_num e_p0
                        refine ev_loc f_X12_asksAlso (nx := 1) rfl rfl rfl rfl ?_
                        refine ev_getR f_X12_asksAlso (nx := 4) rfl (hI.wf.s rfl) rfl rfl (hI.wf.r rfl) rfl rfl ?_
                        refine ev_sp f_X12_asksAlso (nx := 7) (v := 1540) rfl (by decide) rfl ?_
                        refine ev_loc f_X12_asksAlso (nx := 8) rfl rfl rfl rfl ?_
                        refine ev_gvI f_X12_asksAlso (nx := 11) (w := (gi 69 25)) rfl (hI.wf.s rfl) rfl rfl ((hC58.1 69 25 rfl).1.trans ((hC18.1 69 25 rfl).1.trans ((by rw [e17]; exact x_up2_off (Or.inr (by decide)) : g17 69 25 = gi 69 25).trans rfl))) rfl ?_
                        refine ev_addK f_X12_asksAlso (nx := 12) (c := 1540) (l := 1540) (u := 1750) rfl (by decide) l5 u5 rfl rfl (by decide) (by decide) rfl (fun z71 e71 l71 u71 => ?_)
                        refine ev_loc f_X12_asksAlso (nx := 13) rfl rfl rfl rfl ?_
                        refine ev_iastT f_X12_asksAlso (nx := 14) rfl (hI.wf.s rfl) l71 (by decide) u71 (by decide) rfl (hI.astL (hI.wf.s rfl) (by decide +kernel : t_abw 70 1540 1750 1702000 2602300 = true) (t_cl1 l71 (by decide)) (t_cl2 l71 u71 (by decide) (by decide)) l69 u69 rfl) (hX.upI (t_inR (p := 1540) (m := 1750) rfl l71 (by decide) u71 (by decide) (by decide))) (fun g72 e72 hI hX => ?_)
                        refine ev_loc f_X12_asksAlso (nx := 15) rfl rfl rfl rfl ?_
                        refine ev_alu f_X12_asksAlso (nx := 16) rfl rfl rfl rfl ?_
                        refine ev_gvI f_X12_asksAlso (nx := 19) (w := (gi 69 25)) rfl (hI.wf.s rfl) rfl rfl ((by rw [e72]; exact x_up2_off (Or.inl (by decide)) : g72 69 25 = gi58 69 25).trans ((hC58.1 69 25 rfl).1.trans ((hC18.1 69 25 rfl).1.trans ((by rw [e17]; exact x_up2_off (Or.inr (by decide)) : g17 69 25 = gi 69 25).trans rfl)))) rfl ?_
                        refine ev_ic f_X12_asksAlso (nx := 20) (v := 1) rfl (by decide) rfl ?_
                        refine ev_addC f_X12_asksAlso (nx := 21) (c := 1) (l := 1) (u := 211) rfl (by decide) l5 u5 rfl rfl (by decide) (by decide) rfl (fun z73 e73 l73 u73 => ?_)
                        have u75 : z73.toInt ≤ (210:Int) := (by omega)
                        refine ev_putIT f_X12_asksAlso (nx := 24) rfl (hI.wf.s rfl) rfl rfl rfl (hI.putB (hI.wf.s rfl) rfl rfl l73 (by decide) u75 (by decide)) (hX.upI rfl) (fun g74 e74 hI hX => ?_)
                        refine ev_retK0 f_X12_asksAlso rfl rfl rfl ?_
                        refine ev_loc f_X12_aCase (nx := 180) rfl rfl rfl rfl ?_
                        refine ev_qN f_X12_aCase (nx := 183) (r := []) rfl rfl rfl rfl rfl rfl rfl (c_n_aheadB hI ) rfl hX rfl (fun gi76 gl76 gr76 hI hX hC76 q76 => ?_)
                        have q76 : ((g74 69 14).toInt ≤ (gi76 69 14).toInt ∧ ((gi76 69 12).toInt ≠ 0 → (g74 69 14).toInt < (gi76 69 14).toInt) ∧ ((gi76 69 12).toInt = 3 → 0 ≤ (gi76 69 15).toInt)) ∧ (∀ (b : Nat → Int32) (n q : Nat), t_Sm b n q g74 → t_TM b n q gi76) := q76
                        refine ev_ic f_X12_aCase (nx := 184) (v := 1) rfl (by decide) rfl ?_
                        exact ev_ret f_X12_aCase rfl rfl rfl ⟨_, _, _, rfl, hI, hX, ⟨_, rfl, (Int.le_trans (by decide : (0:Int) ≤ 1) (by decide : (1:Int) ≤ (1:Int32).toInt)), (by decide : (1:Int32).toInt ≤ (1:Int)), (show (∀ (b : Nat → Int32) (n q c : Nat) (T : List Int), t_MC b n q c T gi → s_fct b n q → ¬ s_nst b n q → s_mi (s_W b n q) = ar1.toInt → ((1 : Int) = 1 ∧ ∃ q2, q < q2 ∧ s_Cnd b n false q c T = s_Cnd b n true q2 (c + 1) (s_pop T) ∧ t_MC b n q2 (c + 1) T gi76) ∨ ((1 : Int) = 0 ∧ ∃ p x, x ≠ 0 ∧ s_Cnd b n false q c T = s_qb b n p x ∧ t_MF gi76 (s_fk b n p x) (s_F b n p))) from (fun b n q c T h hf hN hm => (by
                                                            have hq := h.qn
                                                            have hcc := h.2.1.2.1
                                                            have hoo := h.2.1.2.2
                                                            have hn24 := h.2.1.1
                                                            have h1 := h.c1 (g1 := g17) (t_fM.rf.u9 (by decide) e17) (by rw [e17, x_up2_at]; omega) (congrArg Int32.toInt (by rw [e17, x_up2_off (Or.inr (by decide))])) (congrArg Int32.toInt (by rw [e17, x_up2_off (Or.inr (by decide))])) (funext fun j => (by rw [e17, x_up2_ne (by decide)]))
                                                            have hX := s_Cnd_s hq hN hf (show ¬ 24 ≤ c by omega) (show T.length ≠ 6 by omega)
                                                            have h2 := h1.ah (q18.2 b n _ h1.1.1.S) ⟨(hC18.1 69 18 rfl).1, (hC18.1 69 17 rfl).1⟩ (congrArg Int32.toInt (hC18.1 69 24 rfl).1) (congrArg Int32.toInt (hC18.1 69 23 rfl).1) (congrArg Int32.toInt (hC18.1 69 22 rfl).1) (funext fun j => (hC18.1 77 j rfl).1)
                                                            have hO : ¬ s_opn b n q := fun hh => by have := s_opn_mi.mp hh; omega
                                                            have hg := s_fct_gt hf
                                                            have hC : s_cmp b n (s_E b n q) := Or.inr (Or.inr ((q46 b n _ h2.1.1).mp (by omega)))
                                                            have hg2 := s_cmp_gt hC
                                                            have h3 := h2.ah (q58.2 b n _ h2.1.1.S) ⟨(hC58.1 69 18 rfl).1, (hC58.1 69 17 rfl).1⟩ (congrArg Int32.toInt (hC58.1 69 24 rfl).1) (congrArg Int32.toInt (hC58.1 69 23 rfl).1) (congrArg Int32.toInt (hC58.1 69 22 rfl).1) (funext fun j => (hC58.1 77 j rfl).1)
                                                            have hV := (h3.1.1.vT (lo := 0) (hi := 300) (by omega) (by omega) (by omega)).1
                                                            have hK : s_K b n (s_E b n (s_E b n q)) = 3 := hV.1
                                                            have hg3 := s_E_gt (b := b) (n := n) (p := s_E b n (s_E b n q)) (by rw [hK]; decide)
                                                            have h4 := h3.sm (g1 := g74) ((t_fM.rf.ux (by decide) e72).u9 (by decide) e74) (congrArg Int32.toInt (by rw [e74, x_up2_off (Or.inr (by decide)), e72, x_up2_ne (by decide)])) (congrArg Int32.toInt (by rw [e74, x_up2_off (Or.inr (by decide)), e72, x_up2_ne (by decide)])) (congrArg Int32.toInt (by rw [e74, x_up2_off (Or.inr (by decide)), e72, x_up2_ne (by decide)])) (funext fun j => (by rw [e74, x_up2_ne (by decide), e72, x_up2_ne (by decide)]))
                                                            have h5 := h4.ah (q76.2 b n _ h4.1.1.S) ⟨(hC76.1 69 18 rfl).1, (hC76.1 69 17 rfl).1⟩ (congrArg Int32.toInt (hC76.1 69 24 rfl).1) (congrArg Int32.toInt (hC76.1 69 23 rfl).1) (congrArg Int32.toInt (hC76.1 69 22 rfl).1) (funext fun j => (hC76.1 77 j rfl).1)
                                                            exact Or.inl ⟨rfl, _, (by omega), hX.trans (by unfold s_cse; rw [s_ifF hO, s_ifT hC, s_ifT hK, s_ifT hV]), h5⟩)))⟩⟩
                      · have l78 : 301 ≤ (gi58 69 15).toInt := t_ltl (t_nle h64) (by decide : (300:Int) ≤ (300:Int32).toInt) rfl
                        refine ev_loc f_X12_aCase (nx := 155) rfl rfl rfl rfl ?_
                        refine ev_ic f_X12_aCase (nx := 156) (v := 4) rfl (by decide) rfl ?_
                        refine ev_qI f_X12_aCase (nx := 159) (r := []) rfl rfl rfl rfl rfl rfl rfl (c_n_fails hI (4) (Int.le_trans (by decide : (2:Int) ≤ 4) (by decide : (4:Int) ≤ (4:Int32).toInt)) (Int.le_trans (by decide : (4:Int32).toInt ≤ (4:Int)) (by decide : (4:Int) ≤ 7))) rfl hX rfl (fun w79 gi79 gl79 gr79 l79 u79 hI hX hC79 q79 => ?_)
                        have q79 : (∀ (b : Nat → Int32) (n q : Nat), t_TM b n q gi58 → (gi58 69 18).toInt = 0 → t_MF gi79 (s_fk b n q 4) (s_F b n q)) ∧ w79.toInt = 0 := q79
                        exact ev_retZ f_X12_aCase rfl l79 (Int.le_trans u79 (by decide : (0:Int) ≤ 1)) ⟨_, _, _, rfl, hI, hX, ⟨_, rfl, l79, (Int.le_trans u79 (by decide : (0:Int) ≤ 1)), (show (∀ (b : Nat → Int32) (n q c : Nat) (T : List Int), t_MC b n q c T gi → s_fct b n q → ¬ s_nst b n q → s_mi (s_W b n q) = ar1.toInt → (w79.toInt = 1 ∧ ∃ q2, q < q2 ∧ s_Cnd b n false q c T = s_Cnd b n true q2 (c + 1) (s_pop T) ∧ t_MC b n q2 (c + 1) T gi79) ∨ (w79.toInt = 0 ∧ ∃ p x, x ≠ 0 ∧ s_Cnd b n false q c T = s_qb b n p x ∧ t_MF gi79 (s_fk b n p x) (s_F b n p))) from (fun b n q c T h hf hN hm => (by
                                                            have hq := h.qn
                                                            have hcc := h.2.1.2.1
                                                            have hoo := h.2.1.2.2
                                                            have hn24 := h.2.1.1
                                                            have h1 := h.c1 (g1 := g17) (t_fM.rf.u9 (by decide) e17) (by rw [e17, x_up2_at]; omega) (congrArg Int32.toInt (by rw [e17, x_up2_off (Or.inr (by decide))])) (congrArg Int32.toInt (by rw [e17, x_up2_off (Or.inr (by decide))])) (funext fun j => (by rw [e17, x_up2_ne (by decide)]))
                                                            have hX := s_Cnd_s hq hN hf (show ¬ 24 ≤ c by omega) (show T.length ≠ 6 by omega)
                                                            have h2 := h1.ah (q18.2 b n _ h1.1.1.S) ⟨(hC18.1 69 18 rfl).1, (hC18.1 69 17 rfl).1⟩ (congrArg Int32.toInt (hC18.1 69 24 rfl).1) (congrArg Int32.toInt (hC18.1 69 23 rfl).1) (congrArg Int32.toInt (hC18.1 69 22 rfl).1) (funext fun j => (hC18.1 77 j rfl).1)
                                                            have hO : ¬ s_opn b n q := fun hh => by have := s_opn_mi.mp hh; omega
                                                            have hg := s_fct_gt hf
                                                            have hC : s_cmp b n (s_E b n q) := Or.inr (Or.inr ((q46 b n _ h2.1.1).mp (by omega)))
                                                            have hg2 := s_cmp_gt hC
                                                            have h3 := h2.ah (q58.2 b n _ h2.1.1.S) ⟨(hC58.1 69 18 rfl).1, (hC58.1 69 17 rfl).1⟩ (congrArg Int32.toInt (hC58.1 69 24 rfl).1) (congrArg Int32.toInt (hC58.1 69 23 rfl).1) (congrArg Int32.toInt (hC58.1 69 22 rfl).1) (funext fun j => (hC58.1 77 j rfl).1)
                                                            have hV := h3.1.1.vF (lo := 0) (hi := 300) (by omega) (Or.inr (by omega))
                                                            exact Or.inr ⟨q79.2, _, 4, by decide, hX.trans (by unfold s_cse; rw [s_ifF hO, s_ifT hC, s_ifT hV.1, s_ifF hV.2]), q79.1 b n _ h3.1.1 h3.1.2.1⟩)))⟩⟩
                    · have r80 : (gi58 69 12).toInt ≠ 3 := fun e => h61 (Int32.toInt_inj.mp (e.trans (by decide : (3:Int) = (3 : Int32).toInt)))
                      refine ev_loc f_X12_aCase (nx := 139) rfl rfl rfl rfl ?_
                      refine ev_ic f_X12_aCase (nx := 140) (v := 2) rfl (by decide) rfl ?_
                      refine ev_qI f_X12_aCase (nx := 143) (r := []) rfl rfl rfl rfl rfl rfl rfl (c_n_fails hI (2) (by decide : (2:Int) ≤ (2:Int32).toInt) (Int.le_trans (by decide : (2:Int32).toInt ≤ (2:Int)) (by decide : (2:Int) ≤ 7))) rfl hX rfl (fun w81 gi81 gl81 gr81 l81 u81 hI hX hC81 q81 => ?_)
                      have q81 : (∀ (b : Nat → Int32) (n q : Nat), t_TM b n q gi58 → (gi58 69 18).toInt = 0 → t_MF gi81 (s_fk b n q 2) (s_F b n q)) ∧ w81.toInt = 0 := q81
                      exact ev_retZ f_X12_aCase rfl l81 (Int.le_trans u81 (by decide : (0:Int) ≤ 1)) ⟨_, _, _, rfl, hI, hX, ⟨_, rfl, l81, (Int.le_trans u81 (by decide : (0:Int) ≤ 1)), (show (∀ (b : Nat → Int32) (n q c : Nat) (T : List Int), t_MC b n q c T gi → s_fct b n q → ¬ s_nst b n q → s_mi (s_W b n q) = ar1.toInt → (w81.toInt = 1 ∧ ∃ q2, q < q2 ∧ s_Cnd b n false q c T = s_Cnd b n true q2 (c + 1) (s_pop T) ∧ t_MC b n q2 (c + 1) T gi81) ∨ (w81.toInt = 0 ∧ ∃ p x, x ≠ 0 ∧ s_Cnd b n false q c T = s_qb b n p x ∧ t_MF gi81 (s_fk b n p x) (s_F b n p))) from (fun b n q c T h hf hN hm => (by
                                                            have hq := h.qn
                                                            have hcc := h.2.1.2.1
                                                            have hoo := h.2.1.2.2
                                                            have hn24 := h.2.1.1
                                                            have h1 := h.c1 (g1 := g17) (t_fM.rf.u9 (by decide) e17) (by rw [e17, x_up2_at]; omega) (congrArg Int32.toInt (by rw [e17, x_up2_off (Or.inr (by decide))])) (congrArg Int32.toInt (by rw [e17, x_up2_off (Or.inr (by decide))])) (funext fun j => (by rw [e17, x_up2_ne (by decide)]))
                                                            have hX := s_Cnd_s hq hN hf (show ¬ 24 ≤ c by omega) (show T.length ≠ 6 by omega)
                                                            have h2 := h1.ah (q18.2 b n _ h1.1.1.S) ⟨(hC18.1 69 18 rfl).1, (hC18.1 69 17 rfl).1⟩ (congrArg Int32.toInt (hC18.1 69 24 rfl).1) (congrArg Int32.toInt (hC18.1 69 23 rfl).1) (congrArg Int32.toInt (hC18.1 69 22 rfl).1) (funext fun j => (hC18.1 77 j rfl).1)
                                                            have hO : ¬ s_opn b n q := fun hh => by have := s_opn_mi.mp hh; omega
                                                            have hg := s_fct_gt hf
                                                            have hC : s_cmp b n (s_E b n q) := Or.inr (Or.inr ((q46 b n _ h2.1.1).mp (by omega)))
                                                            have hg2 := s_cmp_gt hC
                                                            have h3 := h2.ah (q58.2 b n _ h2.1.1.S) ⟨(hC58.1 69 18 rfl).1, (hC58.1 69 17 rfl).1⟩ (congrArg Int32.toInt (hC58.1 69 24 rfl).1) (congrArg Int32.toInt (hC58.1 69 23 rfl).1) (congrArg Int32.toInt (hC58.1 69 22 rfl).1) (funext fun j => (hC58.1 77 j rfl).1)
                                                            have hK := h3.1.1.vK (by omega)
                                                            exact Or.inr ⟨q81.2, _, 2, by decide, hX.trans (by unfold s_cse; rw [s_ifF hO, s_ifT hC, s_ifF hK]), q81.1 b n _ h3.1.1 h3.1.2.1⟩)))⟩⟩
                  · have r82 : w55.toInt ≠ 0 := fun e => h56 (Int32.toInt_inj.mp (e.trans (by decide : (0:Int) = (0 : Int32).toInt)))
                    have l83 : 1 ≤ w55.toInt := t_nel h56 l55 rfl rfl
                    refine ev_ic f_X12_aCase (nx := 121) (v := 1) rfl (by decide) rfl ?_
                    refine ev_jmp f_X12_aCase (nx := 125) rfl rfl rfl ?_
                    refine ev_loc f_X12_aCase (nx := 126) (lo' := [(2, .int 1), (0, .ref 69), (1, .int ar1)]) rfl rfl rfl rfl ?_
                    refine ev_loc f_X12_aCase (nx := 127) rfl rfl rfl rfl ?_
                    refine ev_qN f_X12_aCase (nx := 130) (r := []) rfl rfl rfl rfl rfl rfl rfl (c_n_aheadB hI ) rfl hX rfl (fun gi84 gl84 gr84 hI hX hC84 q84 => ?_)
                    have q84 : ((gi18 69 14).toInt ≤ (gi84 69 14).toInt ∧ ((gi84 69 12).toInt ≠ 0 → (gi18 69 14).toInt < (gi84 69 14).toInt) ∧ ((gi84 69 12).toInt = 3 → 0 ≤ (gi84 69 15).toInt)) ∧ (∀ (b : Nat → Int32) (n q : Nat), t_Sm b n q gi18 → t_TM b n q gi84) := q84
                    refine ev_loc f_X12_aCase (nx := 131) rfl rfl rfl rfl ?_
                    refine ev_getI f_X12_aCase (nx := 134) rfl (hI.wf.s rfl) rfl rfl rfl ?_
                    obtain ⟨l86, u86⟩ := hI.b (hI.wf.s (k := 69) rfl) (t_bdK rfl : t_bd 11 12 = some (0, 4))
                    refine ev_ic f_X12_aCase (nx := 135) (v := 3) rfl (by decide) rfl ?_
                    refine ev_if f_X12_aCase (t1 := 144) (t2 := 138) rfl rfl rfl (fun h87 => ?_) (fun h87 => ?_)
                    · have u88 : (gi84 69 12).toInt ≤ 3 := t_equ h87 (by decide : (3:Int32).toInt ≤ (3:Int))
                      have l89 : 3 ≤ (gi84 69 12).toInt := t_eql h87 (by decide : (3:Int) ≤ (3:Int32).toInt)
                      refine ev_loc f_X12_aCase (nx := 145) rfl rfl rfl rfl ?_
                      refine ev_gvI f_X12_aCase (nx := 148) (w := (gi84 69 15)) rfl (hI.wf.s rfl) rfl rfl rfl rfl ?_
                      refine ev_sp f_X12_aCase (nx := 151) (v := 300) rfl (by decide) rfl ?_
                      refine ev_if f_X12_aCase (t1 := 160) (t2 := 154) rfl rfl rfl (fun h90 => ?_) (fun h90 => ?_)
                      · have u91 : (gi84 69 15).toInt ≤ 300 := t_leu h90 (by decide : (300:Int32).toInt ≤ (300:Int))
                        have l92 : (0:Int) ≤ (gi84 69 15).toInt := by omega
                        refine ev_loc f_X12_aCase (nx := 161) rfl rfl rfl rfl ?_
                        refine ev_ldI f_X12_aCase (nx := 163) (v := 100000) rfl (by decide) rfl ?_
                        refine ev_loc f_X12_aCase (nx := 164) rfl rfl rfl rfl ?_
                        refine ev_mulL f_X12_aCase (nx := 165) (c := 100000) (l := 1700000) (u := 2600000) rfl (by decide) (by decide) l39 u_a1 rfl rfl (by decide) (by decide) rfl (fun z93 e93 l93 u93 => ?_)
                        refine ev_sp f_X12_aCase (nx := 168) (v := 1000) rfl (by decide) rfl ?_
                        refine ev_loc f_X12_aCase (nx := 169) rfl rfl rfl rfl ?_
                        refine ev_aluvI f_X12_aCase (nx := 170) (w := 1000) rfl rfl rfl (by decide) rfl ?_
                        refine ev_addC f_X12_aCase (nx := 171) (c := 1000) (l := 1701000) (u := 2601000) rfl (by decide) l93 u93 rfl rfl (by decide) (by decide) rfl (fun z94 e94 l94 u94 => ?_)
                        refine ev_loc f_X12_aCase (nx := 172) rfl rfl rfl rfl ?_
                        refine ev_gvI f_X12_aCase (nx := 175) (w := (gi84 69 15)) rfl (hI.wf.s rfl) rfl rfl rfl rfl ?_
                        refine ev_addR f_X12_aCase (nx := 176) (l := 1701000) (u := 2601300) rfl l94 u94 l92 u91 rfl rfl (by decide) (by decide) rfl (fun z95 e95 l95 u95 => ?_)
                        refine ev_inV2 f_X12_aCase (nx := 179) (lo2 := [(0, .ref 69), (1, .int z95)]) rfl rfl rfl rfl f_X12_asksAlso (hI.wf.s rfl) rfl rfl rfl rfl rfl ?_
                        have kn96 := t_K_num e_p0
                        refine ev_loc f_X12_asksAlso (nx := 1) rfl rfl rfl rfl ?_
                        refine ev_getR f_X12_asksAlso (nx := 4) rfl (hI.wf.s rfl) rfl rfl (hI.wf.r rfl) rfl rfl ?_
                        refine ev_sp f_X12_asksAlso (nx := 7) (v := 1540) rfl (by decide) rfl ?_
                        refine ev_loc f_X12_asksAlso (nx := 8) rfl rfl rfl rfl ?_
                        refine ev_gvI f_X12_asksAlso (nx := 11) (w := (gi 69 25)) rfl (hI.wf.s rfl) rfl rfl ((hC84.1 69 25 rfl).1.trans ((hC18.1 69 25 rfl).1.trans ((by rw [e17]; exact x_up2_off (Or.inr (by decide)) : g17 69 25 = gi 69 25).trans rfl))) rfl ?_
                        refine ev_addK f_X12_asksAlso (nx := 12) (c := 1540) (l := 1540) (u := 1750) rfl (by decide) l5 u5 rfl rfl (by decide) (by decide) rfl (fun z97 e97 l97 u97 => ?_)
                        refine ev_loc f_X12_asksAlso (nx := 13) rfl rfl rfl rfl ?_
                        refine ev_iastT f_X12_asksAlso (nx := 14) rfl (hI.wf.s rfl) l97 (by decide) u97 (by decide) rfl (hI.astL (hI.wf.s rfl) (by decide +kernel : t_abw 70 1540 1750 1701000 2601300 = true) (t_cl1 l97 (by decide)) (t_cl2 l97 u97 (by decide) (by decide)) l95 u95 rfl) (hX.upI (t_inR (p := 1540) (m := 1750) rfl l97 (by decide) u97 (by decide) (by decide))) (fun g98 e98 hI hX => ?_)
                        refine ev_loc f_X12_asksAlso (nx := 15) rfl rfl rfl rfl ?_
                        refine ev_alu f_X12_asksAlso (nx := 16) rfl rfl rfl rfl ?_
                        refine ev_gvI f_X12_asksAlso (nx := 19) (w := (gi 69 25)) rfl (hI.wf.s rfl) rfl rfl ((by rw [e98]; exact x_up2_off (Or.inl (by decide)) : g98 69 25 = gi84 69 25).trans ((hC84.1 69 25 rfl).1.trans ((hC18.1 69 25 rfl).1.trans ((by rw [e17]; exact x_up2_off (Or.inr (by decide)) : g17 69 25 = gi 69 25).trans rfl)))) rfl ?_
                        refine ev_ic f_X12_asksAlso (nx := 20) (v := 1) rfl (by decide) rfl ?_
                        refine ev_addC f_X12_asksAlso (nx := 21) (c := 1) (l := 1) (u := 211) rfl (by decide) l5 u5 rfl rfl (by decide) (by decide) rfl (fun z99 e99 l99 u99 => ?_)
                        have u101 : z99.toInt ≤ (210:Int) := (by omega)
                        refine ev_putIT f_X12_asksAlso (nx := 24) rfl (hI.wf.s rfl) rfl rfl rfl (hI.putB (hI.wf.s rfl) rfl rfl l99 (by decide) u101 (by decide)) (hX.upI rfl) (fun g100 e100 hI hX => ?_)
                        refine ev_retK0 f_X12_asksAlso rfl rfl rfl ?_
                        refine ev_loc f_X12_aCase (nx := 180) rfl rfl rfl rfl ?_
                        refine ev_qN f_X12_aCase (nx := 183) (r := []) rfl rfl rfl rfl rfl rfl rfl (c_n_aheadB hI ) rfl hX rfl (fun gi102 gl102 gr102 hI hX hC102 q102 => ?_)
                        have q102 : ((g100 69 14).toInt ≤ (gi102 69 14).toInt ∧ ((gi102 69 12).toInt ≠ 0 → (g100 69 14).toInt < (gi102 69 14).toInt) ∧ ((gi102 69 12).toInt = 3 → 0 ≤ (gi102 69 15).toInt)) ∧ (∀ (b : Nat → Int32) (n q : Nat), t_Sm b n q g100 → t_TM b n q gi102) := q102
                        refine ev_ic f_X12_aCase (nx := 184) (v := 1) rfl (by decide) rfl ?_
                        exact ev_ret f_X12_aCase rfl rfl rfl ⟨_, _, _, rfl, hI, hX, ⟨_, rfl, (Int.le_trans (by decide : (0:Int) ≤ 1) (by decide : (1:Int) ≤ (1:Int32).toInt)), (by decide : (1:Int32).toInt ≤ (1:Int)), (show (∀ (b : Nat → Int32) (n q c : Nat) (T : List Int), t_MC b n q c T gi → s_fct b n q → ¬ s_nst b n q → s_mi (s_W b n q) = ar1.toInt → ((1 : Int) = 1 ∧ ∃ q2, q < q2 ∧ s_Cnd b n false q c T = s_Cnd b n true q2 (c + 1) (s_pop T) ∧ t_MC b n q2 (c + 1) T gi102) ∨ ((1 : Int) = 0 ∧ ∃ p x, x ≠ 0 ∧ s_Cnd b n false q c T = s_qb b n p x ∧ t_MF gi102 (s_fk b n p x) (s_F b n p))) from (fun b n q c T h hf hN hm => (by
                                                            have hq := h.qn
                                                            have hcc := h.2.1.2.1
                                                            have hoo := h.2.1.2.2
                                                            have hn24 := h.2.1.1
                                                            have h1 := h.c1 (g1 := g17) (t_fM.rf.u9 (by decide) e17) (by rw [e17, x_up2_at]; omega) (congrArg Int32.toInt (by rw [e17, x_up2_off (Or.inr (by decide))])) (congrArg Int32.toInt (by rw [e17, x_up2_off (Or.inr (by decide))])) (funext fun j => (by rw [e17, x_up2_ne (by decide)]))
                                                            have hX := s_Cnd_s hq hN hf (show ¬ 24 ≤ c by omega) (show T.length ≠ 6 by omega)
                                                            have h2 := h1.ah (q18.2 b n _ h1.1.1.S) ⟨(hC18.1 69 18 rfl).1, (hC18.1 69 17 rfl).1⟩ (congrArg Int32.toInt (hC18.1 69 24 rfl).1) (congrArg Int32.toInt (hC18.1 69 23 rfl).1) (congrArg Int32.toInt (hC18.1 69 22 rfl).1) (funext fun j => (hC18.1 77 j rfl).1)
                                                            have hO : ¬ s_opn b n q := fun hh => by have := s_opn_mi.mp hh; omega
                                                            have hg := s_fct_gt hf
                                                            have hC : s_cmp b n (s_E b n q) := Or.inr (Or.inr ((q46 b n _ h2.1.1).mp (by omega)))
                                                            have hg2 := s_cmp_gt hC
                                                            have h3 := h2.ah (q84.2 b n _ h2.1.1.S) ⟨(hC84.1 69 18 rfl).1, (hC84.1 69 17 rfl).1⟩ (congrArg Int32.toInt (hC84.1 69 24 rfl).1) (congrArg Int32.toInt (hC84.1 69 23 rfl).1) (congrArg Int32.toInt (hC84.1 69 22 rfl).1) (funext fun j => (hC84.1 77 j rfl).1)
                                                            have hV := (h3.1.1.vT (lo := 0) (hi := 300) (by omega) (by omega) (by omega)).1
                                                            have hK : s_K b n (s_E b n (s_E b n q)) = 3 := hV.1
                                                            have hg3 := s_E_gt (b := b) (n := n) (p := s_E b n (s_E b n q)) (by rw [hK]; decide)
                                                            have h4 := h3.sm (g1 := g100) ((t_fM.rf.ux (by decide) e98).u9 (by decide) e100) (congrArg Int32.toInt (by rw [e100, x_up2_off (Or.inr (by decide)), e98, x_up2_ne (by decide)])) (congrArg Int32.toInt (by rw [e100, x_up2_off (Or.inr (by decide)), e98, x_up2_ne (by decide)])) (congrArg Int32.toInt (by rw [e100, x_up2_off (Or.inr (by decide)), e98, x_up2_ne (by decide)])) (funext fun j => (by rw [e100, x_up2_ne (by decide), e98, x_up2_ne (by decide)]))
                                                            have h5 := h4.ah (q102.2 b n _ h4.1.1.S) ⟨(hC102.1 69 18 rfl).1, (hC102.1 69 17 rfl).1⟩ (congrArg Int32.toInt (hC102.1 69 24 rfl).1) (congrArg Int32.toInt (hC102.1 69 23 rfl).1) (congrArg Int32.toInt (hC102.1 69 22 rfl).1) (funext fun j => (hC102.1 77 j rfl).1)
                                                            exact Or.inl ⟨rfl, _, (by omega), hX.trans (by unfold s_cse; rw [s_ifF hO, s_ifT hC, s_ifT hK, s_ifT hV]), h5⟩)))⟩⟩
                      · have l104 : 301 ≤ (gi84 69 15).toInt := t_ltl (t_nle h90) (by decide : (300:Int) ≤ (300:Int32).toInt) rfl
                        refine ev_loc f_X12_aCase (nx := 155) rfl rfl rfl rfl ?_
                        refine ev_ic f_X12_aCase (nx := 156) (v := 4) rfl (by decide) rfl ?_
                        refine ev_qI f_X12_aCase (nx := 159) (r := []) rfl rfl rfl rfl rfl rfl rfl (c_n_fails hI (4) (Int.le_trans (by decide : (2:Int) ≤ 4) (by decide : (4:Int) ≤ (4:Int32).toInt)) (Int.le_trans (by decide : (4:Int32).toInt ≤ (4:Int)) (by decide : (4:Int) ≤ 7))) rfl hX rfl (fun w105 gi105 gl105 gr105 l105 u105 hI hX hC105 q105 => ?_)
                        have q105 : (∀ (b : Nat → Int32) (n q : Nat), t_TM b n q gi84 → (gi84 69 18).toInt = 0 → t_MF gi105 (s_fk b n q 4) (s_F b n q)) ∧ w105.toInt = 0 := q105
                        exact ev_retZ f_X12_aCase rfl l105 (Int.le_trans u105 (by decide : (0:Int) ≤ 1)) ⟨_, _, _, rfl, hI, hX, ⟨_, rfl, l105, (Int.le_trans u105 (by decide : (0:Int) ≤ 1)), (show (∀ (b : Nat → Int32) (n q c : Nat) (T : List Int), t_MC b n q c T gi → s_fct b n q → ¬ s_nst b n q → s_mi (s_W b n q) = ar1.toInt → (w105.toInt = 1 ∧ ∃ q2, q < q2 ∧ s_Cnd b n false q c T = s_Cnd b n true q2 (c + 1) (s_pop T) ∧ t_MC b n q2 (c + 1) T gi105) ∨ (w105.toInt = 0 ∧ ∃ p x, x ≠ 0 ∧ s_Cnd b n false q c T = s_qb b n p x ∧ t_MF gi105 (s_fk b n p x) (s_F b n p))) from (fun b n q c T h hf hN hm => (by
                                                            have hq := h.qn
                                                            have hcc := h.2.1.2.1
                                                            have hoo := h.2.1.2.2
                                                            have hn24 := h.2.1.1
                                                            have h1 := h.c1 (g1 := g17) (t_fM.rf.u9 (by decide) e17) (by rw [e17, x_up2_at]; omega) (congrArg Int32.toInt (by rw [e17, x_up2_off (Or.inr (by decide))])) (congrArg Int32.toInt (by rw [e17, x_up2_off (Or.inr (by decide))])) (funext fun j => (by rw [e17, x_up2_ne (by decide)]))
                                                            have hX := s_Cnd_s hq hN hf (show ¬ 24 ≤ c by omega) (show T.length ≠ 6 by omega)
                                                            have h2 := h1.ah (q18.2 b n _ h1.1.1.S) ⟨(hC18.1 69 18 rfl).1, (hC18.1 69 17 rfl).1⟩ (congrArg Int32.toInt (hC18.1 69 24 rfl).1) (congrArg Int32.toInt (hC18.1 69 23 rfl).1) (congrArg Int32.toInt (hC18.1 69 22 rfl).1) (funext fun j => (hC18.1 77 j rfl).1)
                                                            have hO : ¬ s_opn b n q := fun hh => by have := s_opn_mi.mp hh; omega
                                                            have hg := s_fct_gt hf
                                                            have hC : s_cmp b n (s_E b n q) := Or.inr (Or.inr ((q46 b n _ h2.1.1).mp (by omega)))
                                                            have hg2 := s_cmp_gt hC
                                                            have h3 := h2.ah (q84.2 b n _ h2.1.1.S) ⟨(hC84.1 69 18 rfl).1, (hC84.1 69 17 rfl).1⟩ (congrArg Int32.toInt (hC84.1 69 24 rfl).1) (congrArg Int32.toInt (hC84.1 69 23 rfl).1) (congrArg Int32.toInt (hC84.1 69 22 rfl).1) (funext fun j => (hC84.1 77 j rfl).1)
                                                            have hV := h3.1.1.vF (lo := 0) (hi := 300) (by omega) (Or.inr (by omega))
                                                            exact Or.inr ⟨q105.2, _, 4, by decide, hX.trans (by unfold s_cse; rw [s_ifF hO, s_ifT hC, s_ifT hV.1, s_ifF hV.2]), q105.1 b n _ h3.1.1 h3.1.2.1⟩)))⟩⟩
                    · have r106 : (gi84 69 12).toInt ≠ 3 := fun e => h87 (Int32.toInt_inj.mp (e.trans (by decide : (3:Int) = (3 : Int32).toInt)))
                      refine ev_loc f_X12_aCase (nx := 139) rfl rfl rfl rfl ?_
                      refine ev_ic f_X12_aCase (nx := 140) (v := 2) rfl (by decide) rfl ?_
                      refine ev_qI f_X12_aCase (nx := 143) (r := []) rfl rfl rfl rfl rfl rfl rfl (c_n_fails hI (2) (by decide : (2:Int) ≤ (2:Int32).toInt) (Int.le_trans (by decide : (2:Int32).toInt ≤ (2:Int)) (by decide : (2:Int) ≤ 7))) rfl hX rfl (fun w107 gi107 gl107 gr107 l107 u107 hI hX hC107 q107 => ?_)
                      have q107 : (∀ (b : Nat → Int32) (n q : Nat), t_TM b n q gi84 → (gi84 69 18).toInt = 0 → t_MF gi107 (s_fk b n q 2) (s_F b n q)) ∧ w107.toInt = 0 := q107
                      exact ev_retZ f_X12_aCase rfl l107 (Int.le_trans u107 (by decide : (0:Int) ≤ 1)) ⟨_, _, _, rfl, hI, hX, ⟨_, rfl, l107, (Int.le_trans u107 (by decide : (0:Int) ≤ 1)), (show (∀ (b : Nat → Int32) (n q c : Nat) (T : List Int), t_MC b n q c T gi → s_fct b n q → ¬ s_nst b n q → s_mi (s_W b n q) = ar1.toInt → (w107.toInt = 1 ∧ ∃ q2, q < q2 ∧ s_Cnd b n false q c T = s_Cnd b n true q2 (c + 1) (s_pop T) ∧ t_MC b n q2 (c + 1) T gi107) ∨ (w107.toInt = 0 ∧ ∃ p x, x ≠ 0 ∧ s_Cnd b n false q c T = s_qb b n p x ∧ t_MF gi107 (s_fk b n p x) (s_F b n p))) from (fun b n q c T h hf hN hm => (by
                                                            have hq := h.qn
                                                            have hcc := h.2.1.2.1
                                                            have hoo := h.2.1.2.2
                                                            have hn24 := h.2.1.1
                                                            have h1 := h.c1 (g1 := g17) (t_fM.rf.u9 (by decide) e17) (by rw [e17, x_up2_at]; omega) (congrArg Int32.toInt (by rw [e17, x_up2_off (Or.inr (by decide))])) (congrArg Int32.toInt (by rw [e17, x_up2_off (Or.inr (by decide))])) (funext fun j => (by rw [e17, x_up2_ne (by decide)]))
                                                            have hX := s_Cnd_s hq hN hf (show ¬ 24 ≤ c by omega) (show T.length ≠ 6 by omega)
                                                            have h2 := h1.ah (q18.2 b n _ h1.1.1.S) ⟨(hC18.1 69 18 rfl).1, (hC18.1 69 17 rfl).1⟩ (congrArg Int32.toInt (hC18.1 69 24 rfl).1) (congrArg Int32.toInt (hC18.1 69 23 rfl).1) (congrArg Int32.toInt (hC18.1 69 22 rfl).1) (funext fun j => (hC18.1 77 j rfl).1)
                                                            have hO : ¬ s_opn b n q := fun hh => by have := s_opn_mi.mp hh; omega
                                                            have hg := s_fct_gt hf
                                                            have hC : s_cmp b n (s_E b n q) := Or.inr (Or.inr ((q46 b n _ h2.1.1).mp (by omega)))
                                                            have hg2 := s_cmp_gt hC
                                                            have h3 := h2.ah (q84.2 b n _ h2.1.1.S) ⟨(hC84.1 69 18 rfl).1, (hC84.1 69 17 rfl).1⟩ (congrArg Int32.toInt (hC84.1 69 24 rfl).1) (congrArg Int32.toInt (hC84.1 69 23 rfl).1) (congrArg Int32.toInt (hC84.1 69 22 rfl).1) (funext fun j => (hC84.1 77 j rfl).1)
                                                            have hK := h3.1.1.vK (by omega)
                                                            exact Or.inr ⟨q107.2, _, 2, by decide, hX.trans (by unfold s_cse; rw [s_ifF hO, s_ifT hC, s_ifF hK]), q107.1 b n _ h3.1.1 h3.1.2.1⟩)))⟩⟩
                · have r108 : w52.toInt ≠ 0 := fun e => h53 (Int32.toInt_inj.mp (e.trans (by decide : (0:Int) = (0 : Int32).toInt)))
                  have l109 : 1 ≤ w52.toInt := t_nel h53 l52 rfl rfl
                  refine ev_ic f_X12_aCase (nx := 108) (v := 0) rfl (by decide) rfl ?_
                  refine ev_jmp f_X12_aCase (nx := 125) rfl rfl rfl ?_
                  refine ev_loc f_X12_aCase (nx := 126) (lo' := [(2, .int 0), (0, .ref 69), (1, .int ar1)]) rfl rfl rfl rfl ?_
                  refine ev_loc f_X12_aCase (nx := 127) rfl rfl rfl rfl ?_
                  refine ev_qN f_X12_aCase (nx := 130) (r := []) rfl rfl rfl rfl rfl rfl rfl (c_n_aheadB hI ) rfl hX rfl (fun gi110 gl110 gr110 hI hX hC110 q110 => ?_)
                  have q110 : ((gi18 69 14).toInt ≤ (gi110 69 14).toInt ∧ ((gi110 69 12).toInt ≠ 0 → (gi18 69 14).toInt < (gi110 69 14).toInt) ∧ ((gi110 69 12).toInt = 3 → 0 ≤ (gi110 69 15).toInt)) ∧ (∀ (b : Nat → Int32) (n q : Nat), t_Sm b n q gi18 → t_TM b n q gi110) := q110
                  refine ev_loc f_X12_aCase (nx := 131) rfl rfl rfl rfl ?_
                  refine ev_getI f_X12_aCase (nx := 134) rfl (hI.wf.s rfl) rfl rfl rfl ?_
                  obtain ⟨l112, u112⟩ := hI.b (hI.wf.s (k := 69) rfl) (t_bdK rfl : t_bd 11 12 = some (0, 4))
                  refine ev_ic f_X12_aCase (nx := 135) (v := 3) rfl (by decide) rfl ?_
                  refine ev_if f_X12_aCase (t1 := 144) (t2 := 138) rfl rfl rfl (fun h113 => ?_) (fun h113 => ?_)
                  · have u114 : (gi110 69 12).toInt ≤ 3 := t_equ h113 (by decide : (3:Int32).toInt ≤ (3:Int))
                    have l115 : 3 ≤ (gi110 69 12).toInt := t_eql h113 (by decide : (3:Int) ≤ (3:Int32).toInt)
                    refine ev_loc f_X12_aCase (nx := 145) rfl rfl rfl rfl ?_
                    refine ev_gvI f_X12_aCase (nx := 148) (w := (gi110 69 15)) rfl (hI.wf.s rfl) rfl rfl rfl rfl ?_
                    refine ev_sp f_X12_aCase (nx := 151) (v := 300) rfl (by decide) rfl ?_
                    refine ev_if f_X12_aCase (t1 := 160) (t2 := 154) rfl rfl rfl (fun h116 => ?_) (fun h116 => ?_)
                    · have u117 : (gi110 69 15).toInt ≤ 300 := t_leu h116 (by decide : (300:Int32).toInt ≤ (300:Int))
                      have l118 : (0:Int) ≤ (gi110 69 15).toInt := by omega
                      refine ev_loc f_X12_aCase (nx := 161) rfl rfl rfl rfl ?_
                      refine ev_ldI f_X12_aCase (nx := 163) (v := 100000) rfl (by decide) rfl ?_
                      refine ev_loc f_X12_aCase (nx := 164) rfl rfl rfl rfl ?_
                      refine ev_mulL f_X12_aCase (nx := 165) (c := 100000) (l := 1700000) (u := 2600000) rfl (by decide) (by decide) l39 u_a1 rfl rfl (by decide) (by decide) rfl (fun z119 e119 l119 u119 => ?_)
                      refine ev_sp f_X12_aCase (nx := 168) (v := 1000) rfl (by decide) rfl ?_
                      refine ev_loc f_X12_aCase (nx := 169) rfl rfl rfl rfl ?_
                      refine ev_aluvI f_X12_aCase (nx := 170) (w := 0) rfl rfl rfl (by decide) rfl ?_
                      refine ev_addC f_X12_aCase (nx := 171) (c := 0) (l := 1700000) (u := 2600000) rfl (by decide) l119 u119 rfl rfl (by decide) (by decide) rfl (fun z120 e120 l120 u120 => ?_)
                      refine ev_loc f_X12_aCase (nx := 172) rfl rfl rfl rfl ?_
                      refine ev_gvI f_X12_aCase (nx := 175) (w := (gi110 69 15)) rfl (hI.wf.s rfl) rfl rfl rfl rfl ?_
                      refine ev_addR f_X12_aCase (nx := 176) (l := 1700000) (u := 2600300) rfl l120 u120 l118 u117 rfl rfl (by decide) (by decide) rfl (fun z121 e121 l121 u121 => ?_)
                      refine ev_inV2 f_X12_aCase (nx := 179) (lo2 := [(0, .ref 69), (1, .int z121)]) rfl rfl rfl rfl f_X12_asksAlso (hI.wf.s rfl) rfl rfl rfl rfl rfl ?_
                      have kn122 := t_K_num e_p0
                      refine ev_loc f_X12_asksAlso (nx := 1) rfl rfl rfl rfl ?_
                      refine ev_getR f_X12_asksAlso (nx := 4) rfl (hI.wf.s rfl) rfl rfl (hI.wf.r rfl) rfl rfl ?_
                      refine ev_sp f_X12_asksAlso (nx := 7) (v := 1540) rfl (by decide) rfl ?_
                      refine ev_loc f_X12_asksAlso (nx := 8) rfl rfl rfl rfl ?_
                      refine ev_gvI f_X12_asksAlso (nx := 11) (w := (gi 69 25)) rfl (hI.wf.s rfl) rfl rfl ((hC110.1 69 25 rfl).1.trans ((hC18.1 69 25 rfl).1.trans ((by rw [e17]; exact x_up2_off (Or.inr (by decide)) : g17 69 25 = gi 69 25).trans rfl))) rfl ?_
                      refine ev_addK f_X12_asksAlso (nx := 12) (c := 1540) (l := 1540) (u := 1750) rfl (by decide) l5 u5 rfl rfl (by decide) (by decide) rfl (fun z123 e123 l123 u123 => ?_)
                      refine ev_loc f_X12_asksAlso (nx := 13) rfl rfl rfl rfl ?_
                      refine ev_iastT f_X12_asksAlso (nx := 14) rfl (hI.wf.s rfl) l123 (by decide) u123 (by decide) rfl (hI.astL (hI.wf.s rfl) (by decide +kernel : t_abw 70 1540 1750 1700000 2600300 = true) (t_cl1 l123 (by decide)) (t_cl2 l123 u123 (by decide) (by decide)) l121 u121 rfl) (hX.upI (t_inR (p := 1540) (m := 1750) rfl l123 (by decide) u123 (by decide) (by decide))) (fun g124 e124 hI hX => ?_)
                      refine ev_loc f_X12_asksAlso (nx := 15) rfl rfl rfl rfl ?_
                      refine ev_alu f_X12_asksAlso (nx := 16) rfl rfl rfl rfl ?_
                      refine ev_gvI f_X12_asksAlso (nx := 19) (w := (gi 69 25)) rfl (hI.wf.s rfl) rfl rfl ((by rw [e124]; exact x_up2_off (Or.inl (by decide)) : g124 69 25 = gi110 69 25).trans ((hC110.1 69 25 rfl).1.trans ((hC18.1 69 25 rfl).1.trans ((by rw [e17]; exact x_up2_off (Or.inr (by decide)) : g17 69 25 = gi 69 25).trans rfl)))) rfl ?_
                      refine ev_ic f_X12_asksAlso (nx := 20) (v := 1) rfl (by decide) rfl ?_
                      refine ev_addC f_X12_asksAlso (nx := 21) (c := 1) (l := 1) (u := 211) rfl (by decide) l5 u5 rfl rfl (by decide) (by decide) rfl (fun z125 e125 l125 u125 => ?_)
                      have u127 : z125.toInt ≤ (210:Int) := (by omega)
                      refine ev_putIT f_X12_asksAlso (nx := 24) rfl (hI.wf.s rfl) rfl rfl rfl (hI.putB (hI.wf.s rfl) rfl rfl l125 (by decide) u127 (by decide)) (hX.upI rfl) (fun g126 e126 hI hX => ?_)
                      refine ev_retK0 f_X12_asksAlso rfl rfl rfl ?_
                      refine ev_loc f_X12_aCase (nx := 180) rfl rfl rfl rfl ?_
                      refine ev_qN f_X12_aCase (nx := 183) (r := []) rfl rfl rfl rfl rfl rfl rfl (c_n_aheadB hI ) rfl hX rfl (fun gi128 gl128 gr128 hI hX hC128 q128 => ?_)
                      have q128 : ((g126 69 14).toInt ≤ (gi128 69 14).toInt ∧ ((gi128 69 12).toInt ≠ 0 → (g126 69 14).toInt < (gi128 69 14).toInt) ∧ ((gi128 69 12).toInt = 3 → 0 ≤ (gi128 69 15).toInt)) ∧ (∀ (b : Nat → Int32) (n q : Nat), t_Sm b n q g126 → t_TM b n q gi128) := q128
                      refine ev_ic f_X12_aCase (nx := 184) (v := 1) rfl (by decide) rfl ?_
                      exact ev_ret f_X12_aCase rfl rfl rfl ⟨_, _, _, rfl, hI, hX, ⟨_, rfl, (Int.le_trans (by decide : (0:Int) ≤ 1) (by decide : (1:Int) ≤ (1:Int32).toInt)), (by decide : (1:Int32).toInt ≤ (1:Int)), (show (∀ (b : Nat → Int32) (n q c : Nat) (T : List Int), t_MC b n q c T gi → s_fct b n q → ¬ s_nst b n q → s_mi (s_W b n q) = ar1.toInt → ((1 : Int) = 1 ∧ ∃ q2, q < q2 ∧ s_Cnd b n false q c T = s_Cnd b n true q2 (c + 1) (s_pop T) ∧ t_MC b n q2 (c + 1) T gi128) ∨ ((1 : Int) = 0 ∧ ∃ p x, x ≠ 0 ∧ s_Cnd b n false q c T = s_qb b n p x ∧ t_MF gi128 (s_fk b n p x) (s_F b n p))) from (fun b n q c T h hf hN hm => (by
                                                            have hq := h.qn
                                                            have hcc := h.2.1.2.1
                                                            have hoo := h.2.1.2.2
                                                            have hn24 := h.2.1.1
                                                            have h1 := h.c1 (g1 := g17) (t_fM.rf.u9 (by decide) e17) (by rw [e17, x_up2_at]; omega) (congrArg Int32.toInt (by rw [e17, x_up2_off (Or.inr (by decide))])) (congrArg Int32.toInt (by rw [e17, x_up2_off (Or.inr (by decide))])) (funext fun j => (by rw [e17, x_up2_ne (by decide)]))
                                                            have hX := s_Cnd_s hq hN hf (show ¬ 24 ≤ c by omega) (show T.length ≠ 6 by omega)
                                                            have h2 := h1.ah (q18.2 b n _ h1.1.1.S) ⟨(hC18.1 69 18 rfl).1, (hC18.1 69 17 rfl).1⟩ (congrArg Int32.toInt (hC18.1 69 24 rfl).1) (congrArg Int32.toInt (hC18.1 69 23 rfl).1) (congrArg Int32.toInt (hC18.1 69 22 rfl).1) (funext fun j => (hC18.1 77 j rfl).1)
                                                            have hO : ¬ s_opn b n q := fun hh => by have := s_opn_mi.mp hh; omega
                                                            have hg := s_fct_gt hf
                                                            have hC : s_cmp b n (s_E b n q) := Or.inr (Or.inr ((q46 b n _ h2.1.1).mp (by omega)))
                                                            have hg2 := s_cmp_gt hC
                                                            have h3 := h2.ah (q110.2 b n _ h2.1.1.S) ⟨(hC110.1 69 18 rfl).1, (hC110.1 69 17 rfl).1⟩ (congrArg Int32.toInt (hC110.1 69 24 rfl).1) (congrArg Int32.toInt (hC110.1 69 23 rfl).1) (congrArg Int32.toInt (hC110.1 69 22 rfl).1) (funext fun j => (hC110.1 77 j rfl).1)
                                                            have hV := (h3.1.1.vT (lo := 0) (hi := 300) (by omega) (by omega) (by omega)).1
                                                            have hK : s_K b n (s_E b n (s_E b n q)) = 3 := hV.1
                                                            have hg3 := s_E_gt (b := b) (n := n) (p := s_E b n (s_E b n q)) (by rw [hK]; decide)
                                                            have h4 := h3.sm (g1 := g126) ((t_fM.rf.ux (by decide) e124).u9 (by decide) e126) (congrArg Int32.toInt (by rw [e126, x_up2_off (Or.inr (by decide)), e124, x_up2_ne (by decide)])) (congrArg Int32.toInt (by rw [e126, x_up2_off (Or.inr (by decide)), e124, x_up2_ne (by decide)])) (congrArg Int32.toInt (by rw [e126, x_up2_off (Or.inr (by decide)), e124, x_up2_ne (by decide)])) (funext fun j => (by rw [e126, x_up2_ne (by decide), e124, x_up2_ne (by decide)]))
                                                            have h5 := h4.ah (q128.2 b n _ h4.1.1.S) ⟨(hC128.1 69 18 rfl).1, (hC128.1 69 17 rfl).1⟩ (congrArg Int32.toInt (hC128.1 69 24 rfl).1) (congrArg Int32.toInt (hC128.1 69 23 rfl).1) (congrArg Int32.toInt (hC128.1 69 22 rfl).1) (funext fun j => (hC128.1 77 j rfl).1)
                                                            exact Or.inl ⟨rfl, _, (by omega), hX.trans (by unfold s_cse; rw [s_ifF hO, s_ifT hC, s_ifT hK, s_ifT hV]), h5⟩)))⟩⟩
                    · have l130 : 301 ≤ (gi110 69 15).toInt := t_ltl (t_nle h116) (by decide : (300:Int) ≤ (300:Int32).toInt) rfl
                      refine ev_loc f_X12_aCase (nx := 155) rfl rfl rfl rfl ?_
                      refine ev_ic f_X12_aCase (nx := 156) (v := 4) rfl (by decide) rfl ?_
                      refine ev_qI f_X12_aCase (nx := 159) (r := []) rfl rfl rfl rfl rfl rfl rfl (c_n_fails hI (4) (Int.le_trans (by decide : (2:Int) ≤ 4) (by decide : (4:Int) ≤ (4:Int32).toInt)) (Int.le_trans (by decide : (4:Int32).toInt ≤ (4:Int)) (by decide : (4:Int) ≤ 7))) rfl hX rfl (fun w131 gi131 gl131 gr131 l131 u131 hI hX hC131 q131 => ?_)
                      have q131 : (∀ (b : Nat → Int32) (n q : Nat), t_TM b n q gi110 → (gi110 69 18).toInt = 0 → t_MF gi131 (s_fk b n q 4) (s_F b n q)) ∧ w131.toInt = 0 := q131
                      exact ev_retZ f_X12_aCase rfl l131 (Int.le_trans u131 (by decide : (0:Int) ≤ 1)) ⟨_, _, _, rfl, hI, hX, ⟨_, rfl, l131, (Int.le_trans u131 (by decide : (0:Int) ≤ 1)), (show (∀ (b : Nat → Int32) (n q c : Nat) (T : List Int), t_MC b n q c T gi → s_fct b n q → ¬ s_nst b n q → s_mi (s_W b n q) = ar1.toInt → (w131.toInt = 1 ∧ ∃ q2, q < q2 ∧ s_Cnd b n false q c T = s_Cnd b n true q2 (c + 1) (s_pop T) ∧ t_MC b n q2 (c + 1) T gi131) ∨ (w131.toInt = 0 ∧ ∃ p x, x ≠ 0 ∧ s_Cnd b n false q c T = s_qb b n p x ∧ t_MF gi131 (s_fk b n p x) (s_F b n p))) from (fun b n q c T h hf hN hm => (by
                                                            have hq := h.qn
                                                            have hcc := h.2.1.2.1
                                                            have hoo := h.2.1.2.2
                                                            have hn24 := h.2.1.1
                                                            have h1 := h.c1 (g1 := g17) (t_fM.rf.u9 (by decide) e17) (by rw [e17, x_up2_at]; omega) (congrArg Int32.toInt (by rw [e17, x_up2_off (Or.inr (by decide))])) (congrArg Int32.toInt (by rw [e17, x_up2_off (Or.inr (by decide))])) (funext fun j => (by rw [e17, x_up2_ne (by decide)]))
                                                            have hX := s_Cnd_s hq hN hf (show ¬ 24 ≤ c by omega) (show T.length ≠ 6 by omega)
                                                            have h2 := h1.ah (q18.2 b n _ h1.1.1.S) ⟨(hC18.1 69 18 rfl).1, (hC18.1 69 17 rfl).1⟩ (congrArg Int32.toInt (hC18.1 69 24 rfl).1) (congrArg Int32.toInt (hC18.1 69 23 rfl).1) (congrArg Int32.toInt (hC18.1 69 22 rfl).1) (funext fun j => (hC18.1 77 j rfl).1)
                                                            have hO : ¬ s_opn b n q := fun hh => by have := s_opn_mi.mp hh; omega
                                                            have hg := s_fct_gt hf
                                                            have hC : s_cmp b n (s_E b n q) := Or.inr (Or.inr ((q46 b n _ h2.1.1).mp (by omega)))
                                                            have hg2 := s_cmp_gt hC
                                                            have h3 := h2.ah (q110.2 b n _ h2.1.1.S) ⟨(hC110.1 69 18 rfl).1, (hC110.1 69 17 rfl).1⟩ (congrArg Int32.toInt (hC110.1 69 24 rfl).1) (congrArg Int32.toInt (hC110.1 69 23 rfl).1) (congrArg Int32.toInt (hC110.1 69 22 rfl).1) (funext fun j => (hC110.1 77 j rfl).1)
                                                            have hV := h3.1.1.vF (lo := 0) (hi := 300) (by omega) (Or.inr (by omega))
                                                            exact Or.inr ⟨q131.2, _, 4, by decide, hX.trans (by unfold s_cse; rw [s_ifF hO, s_ifT hC, s_ifT hV.1, s_ifF hV.2]), q131.1 b n _ h3.1.1 h3.1.2.1⟩)))⟩⟩
                  · have r132 : (gi110 69 12).toInt ≠ 3 := fun e => h113 (Int32.toInt_inj.mp (e.trans (by decide : (3:Int) = (3 : Int32).toInt)))
                    refine ev_loc f_X12_aCase (nx := 139) rfl rfl rfl rfl ?_
                    refine ev_ic f_X12_aCase (nx := 140) (v := 2) rfl (by decide) rfl ?_
                    refine ev_qI f_X12_aCase (nx := 143) (r := []) rfl rfl rfl rfl rfl rfl rfl (c_n_fails hI (2) (by decide : (2:Int) ≤ (2:Int32).toInt) (Int.le_trans (by decide : (2:Int32).toInt ≤ (2:Int)) (by decide : (2:Int) ≤ 7))) rfl hX rfl (fun w133 gi133 gl133 gr133 l133 u133 hI hX hC133 q133 => ?_)
                    have q133 : (∀ (b : Nat → Int32) (n q : Nat), t_TM b n q gi110 → (gi110 69 18).toInt = 0 → t_MF gi133 (s_fk b n q 2) (s_F b n q)) ∧ w133.toInt = 0 := q133
                    exact ev_retZ f_X12_aCase rfl l133 (Int.le_trans u133 (by decide : (0:Int) ≤ 1)) ⟨_, _, _, rfl, hI, hX, ⟨_, rfl, l133, (Int.le_trans u133 (by decide : (0:Int) ≤ 1)), (show (∀ (b : Nat → Int32) (n q c : Nat) (T : List Int), t_MC b n q c T gi → s_fct b n q → ¬ s_nst b n q → s_mi (s_W b n q) = ar1.toInt → (w133.toInt = 1 ∧ ∃ q2, q < q2 ∧ s_Cnd b n false q c T = s_Cnd b n true q2 (c + 1) (s_pop T) ∧ t_MC b n q2 (c + 1) T gi133) ∨ (w133.toInt = 0 ∧ ∃ p x, x ≠ 0 ∧ s_Cnd b n false q c T = s_qb b n p x ∧ t_MF gi133 (s_fk b n p x) (s_F b n p))) from (fun b n q c T h hf hN hm => (by
                                                            have hq := h.qn
                                                            have hcc := h.2.1.2.1
                                                            have hoo := h.2.1.2.2
                                                            have hn24 := h.2.1.1
                                                            have h1 := h.c1 (g1 := g17) (t_fM.rf.u9 (by decide) e17) (by rw [e17, x_up2_at]; omega) (congrArg Int32.toInt (by rw [e17, x_up2_off (Or.inr (by decide))])) (congrArg Int32.toInt (by rw [e17, x_up2_off (Or.inr (by decide))])) (funext fun j => (by rw [e17, x_up2_ne (by decide)]))
                                                            have hX := s_Cnd_s hq hN hf (show ¬ 24 ≤ c by omega) (show T.length ≠ 6 by omega)
                                                            have h2 := h1.ah (q18.2 b n _ h1.1.1.S) ⟨(hC18.1 69 18 rfl).1, (hC18.1 69 17 rfl).1⟩ (congrArg Int32.toInt (hC18.1 69 24 rfl).1) (congrArg Int32.toInt (hC18.1 69 23 rfl).1) (congrArg Int32.toInt (hC18.1 69 22 rfl).1) (funext fun j => (hC18.1 77 j rfl).1)
                                                            have hO : ¬ s_opn b n q := fun hh => by have := s_opn_mi.mp hh; omega
                                                            have hg := s_fct_gt hf
                                                            have hC : s_cmp b n (s_E b n q) := Or.inr (Or.inr ((q46 b n _ h2.1.1).mp (by omega)))
                                                            have hg2 := s_cmp_gt hC
                                                            have h3 := h2.ah (q110.2 b n _ h2.1.1.S) ⟨(hC110.1 69 18 rfl).1, (hC110.1 69 17 rfl).1⟩ (congrArg Int32.toInt (hC110.1 69 24 rfl).1) (congrArg Int32.toInt (hC110.1 69 23 rfl).1) (congrArg Int32.toInt (hC110.1 69 22 rfl).1) (funext fun j => (hC110.1 77 j rfl).1)
                                                            have hK := h3.1.1.vK (by omega)
                                                            exact Or.inr ⟨q133.2, _, 2, by decide, hX.trans (by unfold s_cse; rw [s_ifF hO, s_ifT hC, s_ifF hK]), q133.1 b n _ h3.1.1 h3.1.2.1⟩)))⟩⟩
            · have r134 : w43.toInt ≠ 0 := fun e => h44 (Int32.toInt_inj.mp (e.trans (by decide : (0:Int) = (0 : Int32).toInt)))
              have l135 : 1 ≤ w43.toInt := t_nel h44 l43 rfl rfl
              refine ev_loc f_X12_aCase (nx := 99) rfl rfl rfl rfl ?_
              refine ev_bp f_X12_aCase (nx := 101) (v := 60) rfl (by decide) rfl ?_
              refine ev_qI0 f_X12_aCase (nx := 104) (r := []) rfl rfl rfl rfl rfl rfl rfl (c_n_isSign hI (60)) rfl (fun w136 l136 u136 q136 => ?_)
              have q136 : ∀ (b : Nat → Int32) (n q : Nat), t_TM b n q gi18 → (w136.toInt = 1 ↔ s_isS b n q 60) := q136
              refine ev_if f_X12_aCase (t1 := 111) (t2 := 107) rfl rfl rfl (fun h137 => ?_) (fun h137 => ?_)
              · have u138 : w136.toInt ≤ 0 := t_equ h137 (by decide : (0:Int32).toInt ≤ (0:Int))
                refine ev_loc f_X12_aCase (nx := 112) rfl rfl rfl rfl ?_
                refine ev_bp f_X12_aCase (nx := 114) (v := 62) rfl (by decide) rfl ?_
                refine ev_qI0 f_X12_aCase (nx := 117) (r := []) rfl rfl rfl rfl rfl rfl rfl (c_n_isSign hI (62)) rfl (fun w139 l139 u139 q139 => ?_)
                have q139 : ∀ (b : Nat → Int32) (n q : Nat), t_TM b n q gi18 → (w139.toInt = 1 ↔ s_isS b n q 62) := q139
                refine ev_if f_X12_aCase (t1 := 124) (t2 := 120) rfl rfl rfl (fun h140 => ?_) (fun h140 => ?_)
                · have u141 : w139.toInt ≤ 0 := t_equ h140 (by decide : (0:Int32).toInt ≤ (0:Int))
                  refine ev_ic f_X12_aCase (nx := 125) (v := 2) rfl (by decide) rfl ?_
                  refine ev_loc f_X12_aCase (nx := 126) (lo' := [(2, .int 2), (0, .ref 69), (1, .int ar1)]) rfl rfl rfl rfl ?_
                  refine ev_loc f_X12_aCase (nx := 127) rfl rfl rfl rfl ?_
                  refine ev_qN f_X12_aCase (nx := 130) (r := []) rfl rfl rfl rfl rfl rfl rfl (c_n_aheadB hI ) rfl hX rfl (fun gi142 gl142 gr142 hI hX hC142 q142 => ?_)
                  have q142 : ((gi18 69 14).toInt ≤ (gi142 69 14).toInt ∧ ((gi142 69 12).toInt ≠ 0 → (gi18 69 14).toInt < (gi142 69 14).toInt) ∧ ((gi142 69 12).toInt = 3 → 0 ≤ (gi142 69 15).toInt)) ∧ (∀ (b : Nat → Int32) (n q : Nat), t_Sm b n q gi18 → t_TM b n q gi142) := q142
                  refine ev_loc f_X12_aCase (nx := 131) rfl rfl rfl rfl ?_
                  refine ev_getI f_X12_aCase (nx := 134) rfl (hI.wf.s rfl) rfl rfl rfl ?_
                  obtain ⟨l144, u144⟩ := hI.b (hI.wf.s (k := 69) rfl) (t_bdK rfl : t_bd 11 12 = some (0, 4))
                  refine ev_ic f_X12_aCase (nx := 135) (v := 3) rfl (by decide) rfl ?_
                  refine ev_if f_X12_aCase (t1 := 144) (t2 := 138) rfl rfl rfl (fun h145 => ?_) (fun h145 => ?_)
                  · have u146 : (gi142 69 12).toInt ≤ 3 := t_equ h145 (by decide : (3:Int32).toInt ≤ (3:Int))
                    have l147 : 3 ≤ (gi142 69 12).toInt := t_eql h145 (by decide : (3:Int) ≤ (3:Int32).toInt)
                    refine ev_loc f_X12_aCase (nx := 145) rfl rfl rfl rfl ?_
                    refine ev_gvI f_X12_aCase (nx := 148) (w := (gi142 69 15)) rfl (hI.wf.s rfl) rfl rfl rfl rfl ?_
                    refine ev_sp f_X12_aCase (nx := 151) (v := 300) rfl (by decide) rfl ?_
                    refine ev_if f_X12_aCase (t1 := 160) (t2 := 154) rfl rfl rfl (fun h148 => ?_) (fun h148 => ?_)
                    · have u149 : (gi142 69 15).toInt ≤ 300 := t_leu h148 (by decide : (300:Int32).toInt ≤ (300:Int))
                      have l150 : (0:Int) ≤ (gi142 69 15).toInt := by omega
                      refine ev_loc f_X12_aCase (nx := 161) rfl rfl rfl rfl ?_
                      refine ev_ldI f_X12_aCase (nx := 163) (v := 100000) rfl (by decide) rfl ?_
                      refine ev_loc f_X12_aCase (nx := 164) rfl rfl rfl rfl ?_
                      refine ev_mulL f_X12_aCase (nx := 165) (c := 100000) (l := 1700000) (u := 2600000) rfl (by decide) (by decide) l39 u_a1 rfl rfl (by decide) (by decide) rfl (fun z151 e151 l151 u151 => ?_)
                      refine ev_sp f_X12_aCase (nx := 168) (v := 1000) rfl (by decide) rfl ?_
                      refine ev_loc f_X12_aCase (nx := 169) rfl rfl rfl rfl ?_
                      refine ev_aluvI f_X12_aCase (nx := 170) (w := 2000) rfl rfl rfl (by decide) rfl ?_
                      refine ev_addC f_X12_aCase (nx := 171) (c := 2000) (l := 1702000) (u := 2602000) rfl (by decide) l151 u151 rfl rfl (by decide) (by decide) rfl (fun z152 e152 l152 u152 => ?_)
                      refine ev_loc f_X12_aCase (nx := 172) rfl rfl rfl rfl ?_
                      refine ev_gvI f_X12_aCase (nx := 175) (w := (gi142 69 15)) rfl (hI.wf.s rfl) rfl rfl rfl rfl ?_
                      refine ev_addR f_X12_aCase (nx := 176) (l := 1702000) (u := 2602300) rfl l152 u152 l150 u149 rfl rfl (by decide) (by decide) rfl (fun z153 e153 l153 u153 => ?_)
                      refine ev_inV2 f_X12_aCase (nx := 179) (lo2 := [(0, .ref 69), (1, .int z153)]) rfl rfl rfl rfl f_X12_asksAlso (hI.wf.s rfl) rfl rfl rfl rfl rfl ?_
                      have kn154 := t_K_num e_p0
                      refine ev_loc f_X12_asksAlso (nx := 1) rfl rfl rfl rfl ?_
                      refine ev_getR f_X12_asksAlso (nx := 4) rfl (hI.wf.s rfl) rfl rfl (hI.wf.r rfl) rfl rfl ?_
                      refine ev_sp f_X12_asksAlso (nx := 7) (v := 1540) rfl (by decide) rfl ?_
                      refine ev_loc f_X12_asksAlso (nx := 8) rfl rfl rfl rfl ?_
                      refine ev_gvI f_X12_asksAlso (nx := 11) (w := (gi 69 25)) rfl (hI.wf.s rfl) rfl rfl ((hC142.1 69 25 rfl).1.trans ((hC18.1 69 25 rfl).1.trans ((by rw [e17]; exact x_up2_off (Or.inr (by decide)) : g17 69 25 = gi 69 25).trans rfl))) rfl ?_
                      refine ev_addK f_X12_asksAlso (nx := 12) (c := 1540) (l := 1540) (u := 1750) rfl (by decide) l5 u5 rfl rfl (by decide) (by decide) rfl (fun z155 e155 l155 u155 => ?_)
                      refine ev_loc f_X12_asksAlso (nx := 13) rfl rfl rfl rfl ?_
                      refine ev_iastT f_X12_asksAlso (nx := 14) rfl (hI.wf.s rfl) l155 (by decide) u155 (by decide) rfl (hI.astL (hI.wf.s rfl) (by decide +kernel : t_abw 70 1540 1750 1702000 2602300 = true) (t_cl1 l155 (by decide)) (t_cl2 l155 u155 (by decide) (by decide)) l153 u153 rfl) (hX.upI (t_inR (p := 1540) (m := 1750) rfl l155 (by decide) u155 (by decide) (by decide))) (fun g156 e156 hI hX => ?_)
                      refine ev_loc f_X12_asksAlso (nx := 15) rfl rfl rfl rfl ?_
                      refine ev_alu f_X12_asksAlso (nx := 16) rfl rfl rfl rfl ?_
                      refine ev_gvI f_X12_asksAlso (nx := 19) (w := (gi 69 25)) rfl (hI.wf.s rfl) rfl rfl ((by rw [e156]; exact x_up2_off (Or.inl (by decide)) : g156 69 25 = gi142 69 25).trans ((hC142.1 69 25 rfl).1.trans ((hC18.1 69 25 rfl).1.trans ((by rw [e17]; exact x_up2_off (Or.inr (by decide)) : g17 69 25 = gi 69 25).trans rfl)))) rfl ?_
                      refine ev_ic f_X12_asksAlso (nx := 20) (v := 1) rfl (by decide) rfl ?_
                      refine ev_addC f_X12_asksAlso (nx := 21) (c := 1) (l := 1) (u := 211) rfl (by decide) l5 u5 rfl rfl (by decide) (by decide) rfl (fun z157 e157 l157 u157 => ?_)
                      have u159 : z157.toInt ≤ (210:Int) := (by omega)
                      refine ev_putIT f_X12_asksAlso (nx := 24) rfl (hI.wf.s rfl) rfl rfl rfl (hI.putB (hI.wf.s rfl) rfl rfl l157 (by decide) u159 (by decide)) (hX.upI rfl) (fun g158 e158 hI hX => ?_)
                      refine ev_retK0 f_X12_asksAlso rfl rfl rfl ?_
                      refine ev_loc f_X12_aCase (nx := 180) rfl rfl rfl rfl ?_
                      refine ev_qN f_X12_aCase (nx := 183) (r := []) rfl rfl rfl rfl rfl rfl rfl (c_n_aheadB hI ) rfl hX rfl (fun gi160 gl160 gr160 hI hX hC160 q160 => ?_)
                      have q160 : ((g158 69 14).toInt ≤ (gi160 69 14).toInt ∧ ((gi160 69 12).toInt ≠ 0 → (g158 69 14).toInt < (gi160 69 14).toInt) ∧ ((gi160 69 12).toInt = 3 → 0 ≤ (gi160 69 15).toInt)) ∧ (∀ (b : Nat → Int32) (n q : Nat), t_Sm b n q g158 → t_TM b n q gi160) := q160
                      refine ev_ic f_X12_aCase (nx := 184) (v := 1) rfl (by decide) rfl ?_
                      exact ev_ret f_X12_aCase rfl rfl rfl ⟨_, _, _, rfl, hI, hX, ⟨_, rfl, (Int.le_trans (by decide : (0:Int) ≤ 1) (by decide : (1:Int) ≤ (1:Int32).toInt)), (by decide : (1:Int32).toInt ≤ (1:Int)), (show (∀ (b : Nat → Int32) (n q c : Nat) (T : List Int), t_MC b n q c T gi → s_fct b n q → ¬ s_nst b n q → s_mi (s_W b n q) = ar1.toInt → ((1 : Int) = 1 ∧ ∃ q2, q < q2 ∧ s_Cnd b n false q c T = s_Cnd b n true q2 (c + 1) (s_pop T) ∧ t_MC b n q2 (c + 1) T gi160) ∨ ((1 : Int) = 0 ∧ ∃ p x, x ≠ 0 ∧ s_Cnd b n false q c T = s_qb b n p x ∧ t_MF gi160 (s_fk b n p x) (s_F b n p))) from (fun b n q c T h hf hN hm => (by
                                                            have hq := h.qn
                                                            have hcc := h.2.1.2.1
                                                            have hoo := h.2.1.2.2
                                                            have hn24 := h.2.1.1
                                                            have h1 := h.c1 (g1 := g17) (t_fM.rf.u9 (by decide) e17) (by rw [e17, x_up2_at]; omega) (congrArg Int32.toInt (by rw [e17, x_up2_off (Or.inr (by decide))])) (congrArg Int32.toInt (by rw [e17, x_up2_off (Or.inr (by decide))])) (funext fun j => (by rw [e17, x_up2_ne (by decide)]))
                                                            have hX := s_Cnd_s hq hN hf (show ¬ 24 ≤ c by omega) (show T.length ≠ 6 by omega)
                                                            have h2 := h1.ah (q18.2 b n _ h1.1.1.S) ⟨(hC18.1 69 18 rfl).1, (hC18.1 69 17 rfl).1⟩ (congrArg Int32.toInt (hC18.1 69 24 rfl).1) (congrArg Int32.toInt (hC18.1 69 23 rfl).1) (congrArg Int32.toInt (hC18.1 69 22 rfl).1) (funext fun j => (hC18.1 77 j rfl).1)
                                                            have hO : ¬ s_opn b n q := fun hh => by have := s_opn_mi.mp hh; omega
                                                            have hg := s_fct_gt hf
                                                            have hC : s_cmp b n (s_E b n q) := Or.inr (Or.inl ((q43 b n _ h2.1.1).mp (by omega)))
                                                            have hg2 := s_cmp_gt hC
                                                            have h3 := h2.ah (q142.2 b n _ h2.1.1.S) ⟨(hC142.1 69 18 rfl).1, (hC142.1 69 17 rfl).1⟩ (congrArg Int32.toInt (hC142.1 69 24 rfl).1) (congrArg Int32.toInt (hC142.1 69 23 rfl).1) (congrArg Int32.toInt (hC142.1 69 22 rfl).1) (funext fun j => (hC142.1 77 j rfl).1)
                                                            have hV := (h3.1.1.vT (lo := 0) (hi := 300) (by omega) (by omega) (by omega)).1
                                                            have hK : s_K b n (s_E b n (s_E b n q)) = 3 := hV.1
                                                            have hg3 := s_E_gt (b := b) (n := n) (p := s_E b n (s_E b n q)) (by rw [hK]; decide)
                                                            have h4 := h3.sm (g1 := g158) ((t_fM.rf.ux (by decide) e156).u9 (by decide) e158) (congrArg Int32.toInt (by rw [e158, x_up2_off (Or.inr (by decide)), e156, x_up2_ne (by decide)])) (congrArg Int32.toInt (by rw [e158, x_up2_off (Or.inr (by decide)), e156, x_up2_ne (by decide)])) (congrArg Int32.toInt (by rw [e158, x_up2_off (Or.inr (by decide)), e156, x_up2_ne (by decide)])) (funext fun j => (by rw [e158, x_up2_ne (by decide), e156, x_up2_ne (by decide)]))
                                                            have h5 := h4.ah (q160.2 b n _ h4.1.1.S) ⟨(hC160.1 69 18 rfl).1, (hC160.1 69 17 rfl).1⟩ (congrArg Int32.toInt (hC160.1 69 24 rfl).1) (congrArg Int32.toInt (hC160.1 69 23 rfl).1) (congrArg Int32.toInt (hC160.1 69 22 rfl).1) (funext fun j => (hC160.1 77 j rfl).1)
                                                            exact Or.inl ⟨rfl, _, (by omega), hX.trans (by unfold s_cse; rw [s_ifF hO, s_ifT hC, s_ifT hK, s_ifT hV]), h5⟩)))⟩⟩
                    · have l162 : 301 ≤ (gi142 69 15).toInt := t_ltl (t_nle h148) (by decide : (300:Int) ≤ (300:Int32).toInt) rfl
                      refine ev_loc f_X12_aCase (nx := 155) rfl rfl rfl rfl ?_
                      refine ev_ic f_X12_aCase (nx := 156) (v := 4) rfl (by decide) rfl ?_
                      refine ev_qI f_X12_aCase (nx := 159) (r := []) rfl rfl rfl rfl rfl rfl rfl (c_n_fails hI (4) (Int.le_trans (by decide : (2:Int) ≤ 4) (by decide : (4:Int) ≤ (4:Int32).toInt)) (Int.le_trans (by decide : (4:Int32).toInt ≤ (4:Int)) (by decide : (4:Int) ≤ 7))) rfl hX rfl (fun w163 gi163 gl163 gr163 l163 u163 hI hX hC163 q163 => ?_)
                      have q163 : (∀ (b : Nat → Int32) (n q : Nat), t_TM b n q gi142 → (gi142 69 18).toInt = 0 → t_MF gi163 (s_fk b n q 4) (s_F b n q)) ∧ w163.toInt = 0 := q163
                      exact ev_retZ f_X12_aCase rfl l163 (Int.le_trans u163 (by decide : (0:Int) ≤ 1)) ⟨_, _, _, rfl, hI, hX, ⟨_, rfl, l163, (Int.le_trans u163 (by decide : (0:Int) ≤ 1)), (show (∀ (b : Nat → Int32) (n q c : Nat) (T : List Int), t_MC b n q c T gi → s_fct b n q → ¬ s_nst b n q → s_mi (s_W b n q) = ar1.toInt → (w163.toInt = 1 ∧ ∃ q2, q < q2 ∧ s_Cnd b n false q c T = s_Cnd b n true q2 (c + 1) (s_pop T) ∧ t_MC b n q2 (c + 1) T gi163) ∨ (w163.toInt = 0 ∧ ∃ p x, x ≠ 0 ∧ s_Cnd b n false q c T = s_qb b n p x ∧ t_MF gi163 (s_fk b n p x) (s_F b n p))) from (fun b n q c T h hf hN hm => (by
                                                            have hq := h.qn
                                                            have hcc := h.2.1.2.1
                                                            have hoo := h.2.1.2.2
                                                            have hn24 := h.2.1.1
                                                            have h1 := h.c1 (g1 := g17) (t_fM.rf.u9 (by decide) e17) (by rw [e17, x_up2_at]; omega) (congrArg Int32.toInt (by rw [e17, x_up2_off (Or.inr (by decide))])) (congrArg Int32.toInt (by rw [e17, x_up2_off (Or.inr (by decide))])) (funext fun j => (by rw [e17, x_up2_ne (by decide)]))
                                                            have hX := s_Cnd_s hq hN hf (show ¬ 24 ≤ c by omega) (show T.length ≠ 6 by omega)
                                                            have h2 := h1.ah (q18.2 b n _ h1.1.1.S) ⟨(hC18.1 69 18 rfl).1, (hC18.1 69 17 rfl).1⟩ (congrArg Int32.toInt (hC18.1 69 24 rfl).1) (congrArg Int32.toInt (hC18.1 69 23 rfl).1) (congrArg Int32.toInt (hC18.1 69 22 rfl).1) (funext fun j => (hC18.1 77 j rfl).1)
                                                            have hO : ¬ s_opn b n q := fun hh => by have := s_opn_mi.mp hh; omega
                                                            have hg := s_fct_gt hf
                                                            have hC : s_cmp b n (s_E b n q) := Or.inr (Or.inl ((q43 b n _ h2.1.1).mp (by omega)))
                                                            have hg2 := s_cmp_gt hC
                                                            have h3 := h2.ah (q142.2 b n _ h2.1.1.S) ⟨(hC142.1 69 18 rfl).1, (hC142.1 69 17 rfl).1⟩ (congrArg Int32.toInt (hC142.1 69 24 rfl).1) (congrArg Int32.toInt (hC142.1 69 23 rfl).1) (congrArg Int32.toInt (hC142.1 69 22 rfl).1) (funext fun j => (hC142.1 77 j rfl).1)
                                                            have hV := h3.1.1.vF (lo := 0) (hi := 300) (by omega) (Or.inr (by omega))
                                                            exact Or.inr ⟨q163.2, _, 4, by decide, hX.trans (by unfold s_cse; rw [s_ifF hO, s_ifT hC, s_ifT hV.1, s_ifF hV.2]), q163.1 b n _ h3.1.1 h3.1.2.1⟩)))⟩⟩
                  · have r164 : (gi142 69 12).toInt ≠ 3 := fun e => h145 (Int32.toInt_inj.mp (e.trans (by decide : (3:Int) = (3 : Int32).toInt)))
                    refine ev_loc f_X12_aCase (nx := 139) rfl rfl rfl rfl ?_
                    refine ev_ic f_X12_aCase (nx := 140) (v := 2) rfl (by decide) rfl ?_
                    refine ev_qI f_X12_aCase (nx := 143) (r := []) rfl rfl rfl rfl rfl rfl rfl (c_n_fails hI (2) (by decide : (2:Int) ≤ (2:Int32).toInt) (Int.le_trans (by decide : (2:Int32).toInt ≤ (2:Int)) (by decide : (2:Int) ≤ 7))) rfl hX rfl (fun w165 gi165 gl165 gr165 l165 u165 hI hX hC165 q165 => ?_)
                    have q165 : (∀ (b : Nat → Int32) (n q : Nat), t_TM b n q gi142 → (gi142 69 18).toInt = 0 → t_MF gi165 (s_fk b n q 2) (s_F b n q)) ∧ w165.toInt = 0 := q165
                    exact ev_retZ f_X12_aCase rfl l165 (Int.le_trans u165 (by decide : (0:Int) ≤ 1)) ⟨_, _, _, rfl, hI, hX, ⟨_, rfl, l165, (Int.le_trans u165 (by decide : (0:Int) ≤ 1)), (show (∀ (b : Nat → Int32) (n q c : Nat) (T : List Int), t_MC b n q c T gi → s_fct b n q → ¬ s_nst b n q → s_mi (s_W b n q) = ar1.toInt → (w165.toInt = 1 ∧ ∃ q2, q < q2 ∧ s_Cnd b n false q c T = s_Cnd b n true q2 (c + 1) (s_pop T) ∧ t_MC b n q2 (c + 1) T gi165) ∨ (w165.toInt = 0 ∧ ∃ p x, x ≠ 0 ∧ s_Cnd b n false q c T = s_qb b n p x ∧ t_MF gi165 (s_fk b n p x) (s_F b n p))) from (fun b n q c T h hf hN hm => (by
                                                            have hq := h.qn
                                                            have hcc := h.2.1.2.1
                                                            have hoo := h.2.1.2.2
                                                            have hn24 := h.2.1.1
                                                            have h1 := h.c1 (g1 := g17) (t_fM.rf.u9 (by decide) e17) (by rw [e17, x_up2_at]; omega) (congrArg Int32.toInt (by rw [e17, x_up2_off (Or.inr (by decide))])) (congrArg Int32.toInt (by rw [e17, x_up2_off (Or.inr (by decide))])) (funext fun j => (by rw [e17, x_up2_ne (by decide)]))
                                                            have hX := s_Cnd_s hq hN hf (show ¬ 24 ≤ c by omega) (show T.length ≠ 6 by omega)
                                                            have h2 := h1.ah (q18.2 b n _ h1.1.1.S) ⟨(hC18.1 69 18 rfl).1, (hC18.1 69 17 rfl).1⟩ (congrArg Int32.toInt (hC18.1 69 24 rfl).1) (congrArg Int32.toInt (hC18.1 69 23 rfl).1) (congrArg Int32.toInt (hC18.1 69 22 rfl).1) (funext fun j => (hC18.1 77 j rfl).1)
                                                            have hO : ¬ s_opn b n q := fun hh => by have := s_opn_mi.mp hh; omega
                                                            have hg := s_fct_gt hf
                                                            have hC : s_cmp b n (s_E b n q) := Or.inr (Or.inl ((q43 b n _ h2.1.1).mp (by omega)))
                                                            have hg2 := s_cmp_gt hC
                                                            have h3 := h2.ah (q142.2 b n _ h2.1.1.S) ⟨(hC142.1 69 18 rfl).1, (hC142.1 69 17 rfl).1⟩ (congrArg Int32.toInt (hC142.1 69 24 rfl).1) (congrArg Int32.toInt (hC142.1 69 23 rfl).1) (congrArg Int32.toInt (hC142.1 69 22 rfl).1) (funext fun j => (hC142.1 77 j rfl).1)
                                                            have hK := h3.1.1.vK (by omega)
                                                            exact Or.inr ⟨q165.2, _, 2, by decide, hX.trans (by unfold s_cse; rw [s_ifF hO, s_ifT hC, s_ifF hK]), q165.1 b n _ h3.1.1 h3.1.2.1⟩)))⟩⟩
                · have r166 : w139.toInt ≠ 0 := fun e => h140 (Int32.toInt_inj.mp (e.trans (by decide : (0:Int) = (0 : Int32).toInt)))
                  have l167 : 1 ≤ w139.toInt := t_nel h140 l139 rfl rfl
                  refine ev_ic f_X12_aCase (nx := 121) (v := 1) rfl (by decide) rfl ?_
                  refine ev_jmp f_X12_aCase (nx := 125) rfl rfl rfl ?_
                  refine ev_loc f_X12_aCase (nx := 126) (lo' := [(2, .int 1), (0, .ref 69), (1, .int ar1)]) rfl rfl rfl rfl ?_
                  refine ev_loc f_X12_aCase (nx := 127) rfl rfl rfl rfl ?_
                  refine ev_qN f_X12_aCase (nx := 130) (r := []) rfl rfl rfl rfl rfl rfl rfl (c_n_aheadB hI ) rfl hX rfl (fun gi168 gl168 gr168 hI hX hC168 q168 => ?_)
                  have q168 : ((gi18 69 14).toInt ≤ (gi168 69 14).toInt ∧ ((gi168 69 12).toInt ≠ 0 → (gi18 69 14).toInt < (gi168 69 14).toInt) ∧ ((gi168 69 12).toInt = 3 → 0 ≤ (gi168 69 15).toInt)) ∧ (∀ (b : Nat → Int32) (n q : Nat), t_Sm b n q gi18 → t_TM b n q gi168) := q168
                  refine ev_loc f_X12_aCase (nx := 131) rfl rfl rfl rfl ?_
                  refine ev_getI f_X12_aCase (nx := 134) rfl (hI.wf.s rfl) rfl rfl rfl ?_
                  obtain ⟨l170, u170⟩ := hI.b (hI.wf.s (k := 69) rfl) (t_bdK rfl : t_bd 11 12 = some (0, 4))
                  refine ev_ic f_X12_aCase (nx := 135) (v := 3) rfl (by decide) rfl ?_
                  refine ev_if f_X12_aCase (t1 := 144) (t2 := 138) rfl rfl rfl (fun h171 => ?_) (fun h171 => ?_)
                  · have u172 : (gi168 69 12).toInt ≤ 3 := t_equ h171 (by decide : (3:Int32).toInt ≤ (3:Int))
                    have l173 : 3 ≤ (gi168 69 12).toInt := t_eql h171 (by decide : (3:Int) ≤ (3:Int32).toInt)
                    refine ev_loc f_X12_aCase (nx := 145) rfl rfl rfl rfl ?_
                    refine ev_gvI f_X12_aCase (nx := 148) (w := (gi168 69 15)) rfl (hI.wf.s rfl) rfl rfl rfl rfl ?_
                    refine ev_sp f_X12_aCase (nx := 151) (v := 300) rfl (by decide) rfl ?_
                    refine ev_if f_X12_aCase (t1 := 160) (t2 := 154) rfl rfl rfl (fun h174 => ?_) (fun h174 => ?_)
                    · have u175 : (gi168 69 15).toInt ≤ 300 := t_leu h174 (by decide : (300:Int32).toInt ≤ (300:Int))
                      have l176 : (0:Int) ≤ (gi168 69 15).toInt := by omega
                      refine ev_loc f_X12_aCase (nx := 161) rfl rfl rfl rfl ?_
                      refine ev_ldI f_X12_aCase (nx := 163) (v := 100000) rfl (by decide) rfl ?_
                      refine ev_loc f_X12_aCase (nx := 164) rfl rfl rfl rfl ?_
                      refine ev_mulL f_X12_aCase (nx := 165) (c := 100000) (l := 1700000) (u := 2600000) rfl (by decide) (by decide) l39 u_a1 rfl rfl (by decide) (by decide) rfl (fun z177 e177 l177 u177 => ?_)
                      refine ev_sp f_X12_aCase (nx := 168) (v := 1000) rfl (by decide) rfl ?_
                      refine ev_loc f_X12_aCase (nx := 169) rfl rfl rfl rfl ?_
                      refine ev_aluvI f_X12_aCase (nx := 170) (w := 1000) rfl rfl rfl (by decide) rfl ?_
                      refine ev_addC f_X12_aCase (nx := 171) (c := 1000) (l := 1701000) (u := 2601000) rfl (by decide) l177 u177 rfl rfl (by decide) (by decide) rfl (fun z178 e178 l178 u178 => ?_)
                      refine ev_loc f_X12_aCase (nx := 172) rfl rfl rfl rfl ?_
                      refine ev_gvI f_X12_aCase (nx := 175) (w := (gi168 69 15)) rfl (hI.wf.s rfl) rfl rfl rfl rfl ?_
                      refine ev_addR f_X12_aCase (nx := 176) (l := 1701000) (u := 2601300) rfl l178 u178 l176 u175 rfl rfl (by decide) (by decide) rfl (fun z179 e179 l179 u179 => ?_)
                      refine ev_inV2 f_X12_aCase (nx := 179) (lo2 := [(0, .ref 69), (1, .int z179)]) rfl rfl rfl rfl f_X12_asksAlso (hI.wf.s rfl) rfl rfl rfl rfl rfl ?_
                      have kn180 := t_K_num e_p0
                      refine ev_loc f_X12_asksAlso (nx := 1) rfl rfl rfl rfl ?_
                      refine ev_getR f_X12_asksAlso (nx := 4) rfl (hI.wf.s rfl) rfl rfl (hI.wf.r rfl) rfl rfl ?_
                      refine ev_sp f_X12_asksAlso (nx := 7) (v := 1540) rfl (by decide) rfl ?_
                      refine ev_loc f_X12_asksAlso (nx := 8) rfl rfl rfl rfl ?_
                      refine ev_gvI f_X12_asksAlso (nx := 11) (w := (gi 69 25)) rfl (hI.wf.s rfl) rfl rfl ((hC168.1 69 25 rfl).1.trans ((hC18.1 69 25 rfl).1.trans ((by rw [e17]; exact x_up2_off (Or.inr (by decide)) : g17 69 25 = gi 69 25).trans rfl))) rfl ?_
                      refine ev_addK f_X12_asksAlso (nx := 12) (c := 1540) (l := 1540) (u := 1750) rfl (by decide) l5 u5 rfl rfl (by decide) (by decide) rfl (fun z181 e181 l181 u181 => ?_)
                      refine ev_loc f_X12_asksAlso (nx := 13) rfl rfl rfl rfl ?_
                      refine ev_iastT f_X12_asksAlso (nx := 14) rfl (hI.wf.s rfl) l181 (by decide) u181 (by decide) rfl (hI.astL (hI.wf.s rfl) (by decide +kernel : t_abw 70 1540 1750 1701000 2601300 = true) (t_cl1 l181 (by decide)) (t_cl2 l181 u181 (by decide) (by decide)) l179 u179 rfl) (hX.upI (t_inR (p := 1540) (m := 1750) rfl l181 (by decide) u181 (by decide) (by decide))) (fun g182 e182 hI hX => ?_)
                      refine ev_loc f_X12_asksAlso (nx := 15) rfl rfl rfl rfl ?_
                      refine ev_alu f_X12_asksAlso (nx := 16) rfl rfl rfl rfl ?_
                      refine ev_gvI f_X12_asksAlso (nx := 19) (w := (gi 69 25)) rfl (hI.wf.s rfl) rfl rfl ((by rw [e182]; exact x_up2_off (Or.inl (by decide)) : g182 69 25 = gi168 69 25).trans ((hC168.1 69 25 rfl).1.trans ((hC18.1 69 25 rfl).1.trans ((by rw [e17]; exact x_up2_off (Or.inr (by decide)) : g17 69 25 = gi 69 25).trans rfl)))) rfl ?_
                      refine ev_ic f_X12_asksAlso (nx := 20) (v := 1) rfl (by decide) rfl ?_
                      refine ev_addC f_X12_asksAlso (nx := 21) (c := 1) (l := 1) (u := 211) rfl (by decide) l5 u5 rfl rfl (by decide) (by decide) rfl (fun z183 e183 l183 u183 => ?_)
                      have u185 : z183.toInt ≤ (210:Int) := (by omega)
                      refine ev_putIT f_X12_asksAlso (nx := 24) rfl (hI.wf.s rfl) rfl rfl rfl (hI.putB (hI.wf.s rfl) rfl rfl l183 (by decide) u185 (by decide)) (hX.upI rfl) (fun g184 e184 hI hX => ?_)
                      refine ev_retK0 f_X12_asksAlso rfl rfl rfl ?_
                      refine ev_loc f_X12_aCase (nx := 180) rfl rfl rfl rfl ?_
                      refine ev_qN f_X12_aCase (nx := 183) (r := []) rfl rfl rfl rfl rfl rfl rfl (c_n_aheadB hI ) rfl hX rfl (fun gi186 gl186 gr186 hI hX hC186 q186 => ?_)
                      have q186 : ((g184 69 14).toInt ≤ (gi186 69 14).toInt ∧ ((gi186 69 12).toInt ≠ 0 → (g184 69 14).toInt < (gi186 69 14).toInt) ∧ ((gi186 69 12).toInt = 3 → 0 ≤ (gi186 69 15).toInt)) ∧ (∀ (b : Nat → Int32) (n q : Nat), t_Sm b n q g184 → t_TM b n q gi186) := q186
                      refine ev_ic f_X12_aCase (nx := 184) (v := 1) rfl (by decide) rfl ?_
                      exact ev_ret f_X12_aCase rfl rfl rfl ⟨_, _, _, rfl, hI, hX, ⟨_, rfl, (Int.le_trans (by decide : (0:Int) ≤ 1) (by decide : (1:Int) ≤ (1:Int32).toInt)), (by decide : (1:Int32).toInt ≤ (1:Int)), (show (∀ (b : Nat → Int32) (n q c : Nat) (T : List Int), t_MC b n q c T gi → s_fct b n q → ¬ s_nst b n q → s_mi (s_W b n q) = ar1.toInt → ((1 : Int) = 1 ∧ ∃ q2, q < q2 ∧ s_Cnd b n false q c T = s_Cnd b n true q2 (c + 1) (s_pop T) ∧ t_MC b n q2 (c + 1) T gi186) ∨ ((1 : Int) = 0 ∧ ∃ p x, x ≠ 0 ∧ s_Cnd b n false q c T = s_qb b n p x ∧ t_MF gi186 (s_fk b n p x) (s_F b n p))) from (fun b n q c T h hf hN hm => (by
                                                            have hq := h.qn
                                                            have hcc := h.2.1.2.1
                                                            have hoo := h.2.1.2.2
                                                            have hn24 := h.2.1.1
                                                            have h1 := h.c1 (g1 := g17) (t_fM.rf.u9 (by decide) e17) (by rw [e17, x_up2_at]; omega) (congrArg Int32.toInt (by rw [e17, x_up2_off (Or.inr (by decide))])) (congrArg Int32.toInt (by rw [e17, x_up2_off (Or.inr (by decide))])) (funext fun j => (by rw [e17, x_up2_ne (by decide)]))
                                                            have hX := s_Cnd_s hq hN hf (show ¬ 24 ≤ c by omega) (show T.length ≠ 6 by omega)
                                                            have h2 := h1.ah (q18.2 b n _ h1.1.1.S) ⟨(hC18.1 69 18 rfl).1, (hC18.1 69 17 rfl).1⟩ (congrArg Int32.toInt (hC18.1 69 24 rfl).1) (congrArg Int32.toInt (hC18.1 69 23 rfl).1) (congrArg Int32.toInt (hC18.1 69 22 rfl).1) (funext fun j => (hC18.1 77 j rfl).1)
                                                            have hO : ¬ s_opn b n q := fun hh => by have := s_opn_mi.mp hh; omega
                                                            have hg := s_fct_gt hf
                                                            have hC : s_cmp b n (s_E b n q) := Or.inr (Or.inl ((q43 b n _ h2.1.1).mp (by omega)))
                                                            have hg2 := s_cmp_gt hC
                                                            have h3 := h2.ah (q168.2 b n _ h2.1.1.S) ⟨(hC168.1 69 18 rfl).1, (hC168.1 69 17 rfl).1⟩ (congrArg Int32.toInt (hC168.1 69 24 rfl).1) (congrArg Int32.toInt (hC168.1 69 23 rfl).1) (congrArg Int32.toInt (hC168.1 69 22 rfl).1) (funext fun j => (hC168.1 77 j rfl).1)
                                                            have hV := (h3.1.1.vT (lo := 0) (hi := 300) (by omega) (by omega) (by omega)).1
                                                            have hK : s_K b n (s_E b n (s_E b n q)) = 3 := hV.1
                                                            have hg3 := s_E_gt (b := b) (n := n) (p := s_E b n (s_E b n q)) (by rw [hK]; decide)
                                                            have h4 := h3.sm (g1 := g184) ((t_fM.rf.ux (by decide) e182).u9 (by decide) e184) (congrArg Int32.toInt (by rw [e184, x_up2_off (Or.inr (by decide)), e182, x_up2_ne (by decide)])) (congrArg Int32.toInt (by rw [e184, x_up2_off (Or.inr (by decide)), e182, x_up2_ne (by decide)])) (congrArg Int32.toInt (by rw [e184, x_up2_off (Or.inr (by decide)), e182, x_up2_ne (by decide)])) (funext fun j => (by rw [e184, x_up2_ne (by decide), e182, x_up2_ne (by decide)]))
                                                            have h5 := h4.ah (q186.2 b n _ h4.1.1.S) ⟨(hC186.1 69 18 rfl).1, (hC186.1 69 17 rfl).1⟩ (congrArg Int32.toInt (hC186.1 69 24 rfl).1) (congrArg Int32.toInt (hC186.1 69 23 rfl).1) (congrArg Int32.toInt (hC186.1 69 22 rfl).1) (funext fun j => (hC186.1 77 j rfl).1)
                                                            exact Or.inl ⟨rfl, _, (by omega), hX.trans (by unfold s_cse; rw [s_ifF hO, s_ifT hC, s_ifT hK, s_ifT hV]), h5⟩)))⟩⟩
                    · have l188 : 301 ≤ (gi168 69 15).toInt := t_ltl (t_nle h174) (by decide : (300:Int) ≤ (300:Int32).toInt) rfl
                      refine ev_loc f_X12_aCase (nx := 155) rfl rfl rfl rfl ?_
                      refine ev_ic f_X12_aCase (nx := 156) (v := 4) rfl (by decide) rfl ?_
                      refine ev_qI f_X12_aCase (nx := 159) (r := []) rfl rfl rfl rfl rfl rfl rfl (c_n_fails hI (4) (Int.le_trans (by decide : (2:Int) ≤ 4) (by decide : (4:Int) ≤ (4:Int32).toInt)) (Int.le_trans (by decide : (4:Int32).toInt ≤ (4:Int)) (by decide : (4:Int) ≤ 7))) rfl hX rfl (fun w189 gi189 gl189 gr189 l189 u189 hI hX hC189 q189 => ?_)
                      have q189 : (∀ (b : Nat → Int32) (n q : Nat), t_TM b n q gi168 → (gi168 69 18).toInt = 0 → t_MF gi189 (s_fk b n q 4) (s_F b n q)) ∧ w189.toInt = 0 := q189
                      exact ev_retZ f_X12_aCase rfl l189 (Int.le_trans u189 (by decide : (0:Int) ≤ 1)) ⟨_, _, _, rfl, hI, hX, ⟨_, rfl, l189, (Int.le_trans u189 (by decide : (0:Int) ≤ 1)), (show (∀ (b : Nat → Int32) (n q c : Nat) (T : List Int), t_MC b n q c T gi → s_fct b n q → ¬ s_nst b n q → s_mi (s_W b n q) = ar1.toInt → (w189.toInt = 1 ∧ ∃ q2, q < q2 ∧ s_Cnd b n false q c T = s_Cnd b n true q2 (c + 1) (s_pop T) ∧ t_MC b n q2 (c + 1) T gi189) ∨ (w189.toInt = 0 ∧ ∃ p x, x ≠ 0 ∧ s_Cnd b n false q c T = s_qb b n p x ∧ t_MF gi189 (s_fk b n p x) (s_F b n p))) from (fun b n q c T h hf hN hm => (by
                                                            have hq := h.qn
                                                            have hcc := h.2.1.2.1
                                                            have hoo := h.2.1.2.2
                                                            have hn24 := h.2.1.1
                                                            have h1 := h.c1 (g1 := g17) (t_fM.rf.u9 (by decide) e17) (by rw [e17, x_up2_at]; omega) (congrArg Int32.toInt (by rw [e17, x_up2_off (Or.inr (by decide))])) (congrArg Int32.toInt (by rw [e17, x_up2_off (Or.inr (by decide))])) (funext fun j => (by rw [e17, x_up2_ne (by decide)]))
                                                            have hX := s_Cnd_s hq hN hf (show ¬ 24 ≤ c by omega) (show T.length ≠ 6 by omega)
                                                            have h2 := h1.ah (q18.2 b n _ h1.1.1.S) ⟨(hC18.1 69 18 rfl).1, (hC18.1 69 17 rfl).1⟩ (congrArg Int32.toInt (hC18.1 69 24 rfl).1) (congrArg Int32.toInt (hC18.1 69 23 rfl).1) (congrArg Int32.toInt (hC18.1 69 22 rfl).1) (funext fun j => (hC18.1 77 j rfl).1)
                                                            have hO : ¬ s_opn b n q := fun hh => by have := s_opn_mi.mp hh; omega
                                                            have hg := s_fct_gt hf
                                                            have hC : s_cmp b n (s_E b n q) := Or.inr (Or.inl ((q43 b n _ h2.1.1).mp (by omega)))
                                                            have hg2 := s_cmp_gt hC
                                                            have h3 := h2.ah (q168.2 b n _ h2.1.1.S) ⟨(hC168.1 69 18 rfl).1, (hC168.1 69 17 rfl).1⟩ (congrArg Int32.toInt (hC168.1 69 24 rfl).1) (congrArg Int32.toInt (hC168.1 69 23 rfl).1) (congrArg Int32.toInt (hC168.1 69 22 rfl).1) (funext fun j => (hC168.1 77 j rfl).1)
                                                            have hV := h3.1.1.vF (lo := 0) (hi := 300) (by omega) (Or.inr (by omega))
                                                            exact Or.inr ⟨q189.2, _, 4, by decide, hX.trans (by unfold s_cse; rw [s_ifF hO, s_ifT hC, s_ifT hV.1, s_ifF hV.2]), q189.1 b n _ h3.1.1 h3.1.2.1⟩)))⟩⟩
                  · have r190 : (gi168 69 12).toInt ≠ 3 := fun e => h171 (Int32.toInt_inj.mp (e.trans (by decide : (3:Int) = (3 : Int32).toInt)))
                    refine ev_loc f_X12_aCase (nx := 139) rfl rfl rfl rfl ?_
                    refine ev_ic f_X12_aCase (nx := 140) (v := 2) rfl (by decide) rfl ?_
                    refine ev_qI f_X12_aCase (nx := 143) (r := []) rfl rfl rfl rfl rfl rfl rfl (c_n_fails hI (2) (by decide : (2:Int) ≤ (2:Int32).toInt) (Int.le_trans (by decide : (2:Int32).toInt ≤ (2:Int)) (by decide : (2:Int) ≤ 7))) rfl hX rfl (fun w191 gi191 gl191 gr191 l191 u191 hI hX hC191 q191 => ?_)
                    have q191 : (∀ (b : Nat → Int32) (n q : Nat), t_TM b n q gi168 → (gi168 69 18).toInt = 0 → t_MF gi191 (s_fk b n q 2) (s_F b n q)) ∧ w191.toInt = 0 := q191
                    exact ev_retZ f_X12_aCase rfl l191 (Int.le_trans u191 (by decide : (0:Int) ≤ 1)) ⟨_, _, _, rfl, hI, hX, ⟨_, rfl, l191, (Int.le_trans u191 (by decide : (0:Int) ≤ 1)), (show (∀ (b : Nat → Int32) (n q c : Nat) (T : List Int), t_MC b n q c T gi → s_fct b n q → ¬ s_nst b n q → s_mi (s_W b n q) = ar1.toInt → (w191.toInt = 1 ∧ ∃ q2, q < q2 ∧ s_Cnd b n false q c T = s_Cnd b n true q2 (c + 1) (s_pop T) ∧ t_MC b n q2 (c + 1) T gi191) ∨ (w191.toInt = 0 ∧ ∃ p x, x ≠ 0 ∧ s_Cnd b n false q c T = s_qb b n p x ∧ t_MF gi191 (s_fk b n p x) (s_F b n p))) from (fun b n q c T h hf hN hm => (by
                                                            have hq := h.qn
                                                            have hcc := h.2.1.2.1
                                                            have hoo := h.2.1.2.2
                                                            have hn24 := h.2.1.1
                                                            have h1 := h.c1 (g1 := g17) (t_fM.rf.u9 (by decide) e17) (by rw [e17, x_up2_at]; omega) (congrArg Int32.toInt (by rw [e17, x_up2_off (Or.inr (by decide))])) (congrArg Int32.toInt (by rw [e17, x_up2_off (Or.inr (by decide))])) (funext fun j => (by rw [e17, x_up2_ne (by decide)]))
                                                            have hX := s_Cnd_s hq hN hf (show ¬ 24 ≤ c by omega) (show T.length ≠ 6 by omega)
                                                            have h2 := h1.ah (q18.2 b n _ h1.1.1.S) ⟨(hC18.1 69 18 rfl).1, (hC18.1 69 17 rfl).1⟩ (congrArg Int32.toInt (hC18.1 69 24 rfl).1) (congrArg Int32.toInt (hC18.1 69 23 rfl).1) (congrArg Int32.toInt (hC18.1 69 22 rfl).1) (funext fun j => (hC18.1 77 j rfl).1)
                                                            have hO : ¬ s_opn b n q := fun hh => by have := s_opn_mi.mp hh; omega
                                                            have hg := s_fct_gt hf
                                                            have hC : s_cmp b n (s_E b n q) := Or.inr (Or.inl ((q43 b n _ h2.1.1).mp (by omega)))
                                                            have hg2 := s_cmp_gt hC
                                                            have h3 := h2.ah (q168.2 b n _ h2.1.1.S) ⟨(hC168.1 69 18 rfl).1, (hC168.1 69 17 rfl).1⟩ (congrArg Int32.toInt (hC168.1 69 24 rfl).1) (congrArg Int32.toInt (hC168.1 69 23 rfl).1) (congrArg Int32.toInt (hC168.1 69 22 rfl).1) (funext fun j => (hC168.1 77 j rfl).1)
                                                            have hK := h3.1.1.vK (by omega)
                                                            exact Or.inr ⟨q191.2, _, 2, by decide, hX.trans (by unfold s_cse; rw [s_ifF hO, s_ifT hC, s_ifF hK]), q191.1 b n _ h3.1.1 h3.1.2.1⟩)))⟩⟩
              · have r192 : w136.toInt ≠ 0 := fun e => h137 (Int32.toInt_inj.mp (e.trans (by decide : (0:Int) = (0 : Int32).toInt)))
                have l193 : 1 ≤ w136.toInt := t_nel h137 l136 rfl rfl
                refine ev_ic f_X12_aCase (nx := 108) (v := 0) rfl (by decide) rfl ?_
                refine ev_jmp f_X12_aCase (nx := 125) rfl rfl rfl ?_
                refine ev_loc f_X12_aCase (nx := 126) (lo' := [(2, .int 0), (0, .ref 69), (1, .int ar1)]) rfl rfl rfl rfl ?_
                refine ev_loc f_X12_aCase (nx := 127) rfl rfl rfl rfl ?_
                refine ev_qN f_X12_aCase (nx := 130) (r := []) rfl rfl rfl rfl rfl rfl rfl (c_n_aheadB hI ) rfl hX rfl (fun gi194 gl194 gr194 hI hX hC194 q194 => ?_)
                have q194 : ((gi18 69 14).toInt ≤ (gi194 69 14).toInt ∧ ((gi194 69 12).toInt ≠ 0 → (gi18 69 14).toInt < (gi194 69 14).toInt) ∧ ((gi194 69 12).toInt = 3 → 0 ≤ (gi194 69 15).toInt)) ∧ (∀ (b : Nat → Int32) (n q : Nat), t_Sm b n q gi18 → t_TM b n q gi194) := q194
                refine ev_loc f_X12_aCase (nx := 131) rfl rfl rfl rfl ?_
                refine ev_getI f_X12_aCase (nx := 134) rfl (hI.wf.s rfl) rfl rfl rfl ?_
                obtain ⟨l196, u196⟩ := hI.b (hI.wf.s (k := 69) rfl) (t_bdK rfl : t_bd 11 12 = some (0, 4))
                refine ev_ic f_X12_aCase (nx := 135) (v := 3) rfl (by decide) rfl ?_
                refine ev_if f_X12_aCase (t1 := 144) (t2 := 138) rfl rfl rfl (fun h197 => ?_) (fun h197 => ?_)
                · have u198 : (gi194 69 12).toInt ≤ 3 := t_equ h197 (by decide : (3:Int32).toInt ≤ (3:Int))
                  have l199 : 3 ≤ (gi194 69 12).toInt := t_eql h197 (by decide : (3:Int) ≤ (3:Int32).toInt)
                  refine ev_loc f_X12_aCase (nx := 145) rfl rfl rfl rfl ?_
                  refine ev_gvI f_X12_aCase (nx := 148) (w := (gi194 69 15)) rfl (hI.wf.s rfl) rfl rfl rfl rfl ?_
                  refine ev_sp f_X12_aCase (nx := 151) (v := 300) rfl (by decide) rfl ?_
                  refine ev_if f_X12_aCase (t1 := 160) (t2 := 154) rfl rfl rfl (fun h200 => ?_) (fun h200 => ?_)
                  · have u201 : (gi194 69 15).toInt ≤ 300 := t_leu h200 (by decide : (300:Int32).toInt ≤ (300:Int))
                    have l202 : (0:Int) ≤ (gi194 69 15).toInt := by omega
                    refine ev_loc f_X12_aCase (nx := 161) rfl rfl rfl rfl ?_
                    refine ev_ldI f_X12_aCase (nx := 163) (v := 100000) rfl (by decide) rfl ?_
                    refine ev_loc f_X12_aCase (nx := 164) rfl rfl rfl rfl ?_
                    refine ev_mulL f_X12_aCase (nx := 165) (c := 100000) (l := 1700000) (u := 2600000) rfl (by decide) (by decide) l39 u_a1 rfl rfl (by decide) (by decide) rfl (fun z203 e203 l203 u203 => ?_)
                    refine ev_sp f_X12_aCase (nx := 168) (v := 1000) rfl (by decide) rfl ?_
                    refine ev_loc f_X12_aCase (nx := 169) rfl rfl rfl rfl ?_
                    refine ev_aluvI f_X12_aCase (nx := 170) (w := 0) rfl rfl rfl (by decide) rfl ?_
                    refine ev_addC f_X12_aCase (nx := 171) (c := 0) (l := 1700000) (u := 2600000) rfl (by decide) l203 u203 rfl rfl (by decide) (by decide) rfl (fun z204 e204 l204 u204 => ?_)
                    refine ev_loc f_X12_aCase (nx := 172) rfl rfl rfl rfl ?_
                    refine ev_gvI f_X12_aCase (nx := 175) (w := (gi194 69 15)) rfl (hI.wf.s rfl) rfl rfl rfl rfl ?_
                    refine ev_addR f_X12_aCase (nx := 176) (l := 1700000) (u := 2600300) rfl l204 u204 l202 u201 rfl rfl (by decide) (by decide) rfl (fun z205 e205 l205 u205 => ?_)
                    refine ev_inV2 f_X12_aCase (nx := 179) (lo2 := [(0, .ref 69), (1, .int z205)]) rfl rfl rfl rfl f_X12_asksAlso (hI.wf.s rfl) rfl rfl rfl rfl rfl ?_
                    have kn206 := t_K_num e_p0
                    refine ev_loc f_X12_asksAlso (nx := 1) rfl rfl rfl rfl ?_
                    refine ev_getR f_X12_asksAlso (nx := 4) rfl (hI.wf.s rfl) rfl rfl (hI.wf.r rfl) rfl rfl ?_
                    refine ev_sp f_X12_asksAlso (nx := 7) (v := 1540) rfl (by decide) rfl ?_
                    refine ev_loc f_X12_asksAlso (nx := 8) rfl rfl rfl rfl ?_
                    refine ev_gvI f_X12_asksAlso (nx := 11) (w := (gi 69 25)) rfl (hI.wf.s rfl) rfl rfl ((hC194.1 69 25 rfl).1.trans ((hC18.1 69 25 rfl).1.trans ((by rw [e17]; exact x_up2_off (Or.inr (by decide)) : g17 69 25 = gi 69 25).trans rfl))) rfl ?_
                    refine ev_addK f_X12_asksAlso (nx := 12) (c := 1540) (l := 1540) (u := 1750) rfl (by decide) l5 u5 rfl rfl (by decide) (by decide) rfl (fun z207 e207 l207 u207 => ?_)
                    refine ev_loc f_X12_asksAlso (nx := 13) rfl rfl rfl rfl ?_
                    refine ev_iastT f_X12_asksAlso (nx := 14) rfl (hI.wf.s rfl) l207 (by decide) u207 (by decide) rfl (hI.astL (hI.wf.s rfl) (by decide +kernel : t_abw 70 1540 1750 1700000 2600300 = true) (t_cl1 l207 (by decide)) (t_cl2 l207 u207 (by decide) (by decide)) l205 u205 rfl) (hX.upI (t_inR (p := 1540) (m := 1750) rfl l207 (by decide) u207 (by decide) (by decide))) (fun g208 e208 hI hX => ?_)
                    refine ev_loc f_X12_asksAlso (nx := 15) rfl rfl rfl rfl ?_
                    refine ev_alu f_X12_asksAlso (nx := 16) rfl rfl rfl rfl ?_
                    refine ev_gvI f_X12_asksAlso (nx := 19) (w := (gi 69 25)) rfl (hI.wf.s rfl) rfl rfl ((by rw [e208]; exact x_up2_off (Or.inl (by decide)) : g208 69 25 = gi194 69 25).trans ((hC194.1 69 25 rfl).1.trans ((hC18.1 69 25 rfl).1.trans ((by rw [e17]; exact x_up2_off (Or.inr (by decide)) : g17 69 25 = gi 69 25).trans rfl)))) rfl ?_
                    refine ev_ic f_X12_asksAlso (nx := 20) (v := 1) rfl (by decide) rfl ?_
                    refine ev_addC f_X12_asksAlso (nx := 21) (c := 1) (l := 1) (u := 211) rfl (by decide) l5 u5 rfl rfl (by decide) (by decide) rfl (fun z209 e209 l209 u209 => ?_)
                    have u211 : z209.toInt ≤ (210:Int) := (by omega)
                    refine ev_putIT f_X12_asksAlso (nx := 24) rfl (hI.wf.s rfl) rfl rfl rfl (hI.putB (hI.wf.s rfl) rfl rfl l209 (by decide) u211 (by decide)) (hX.upI rfl) (fun g210 e210 hI hX => ?_)
                    refine ev_retK0 f_X12_asksAlso rfl rfl rfl ?_
                    refine ev_loc f_X12_aCase (nx := 180) rfl rfl rfl rfl ?_
                    refine ev_qN f_X12_aCase (nx := 183) (r := []) rfl rfl rfl rfl rfl rfl rfl (c_n_aheadB hI ) rfl hX rfl (fun gi212 gl212 gr212 hI hX hC212 q212 => ?_)
                    have q212 : ((g210 69 14).toInt ≤ (gi212 69 14).toInt ∧ ((gi212 69 12).toInt ≠ 0 → (g210 69 14).toInt < (gi212 69 14).toInt) ∧ ((gi212 69 12).toInt = 3 → 0 ≤ (gi212 69 15).toInt)) ∧ (∀ (b : Nat → Int32) (n q : Nat), t_Sm b n q g210 → t_TM b n q gi212) := q212
                    refine ev_ic f_X12_aCase (nx := 184) (v := 1) rfl (by decide) rfl ?_
                    exact ev_ret f_X12_aCase rfl rfl rfl ⟨_, _, _, rfl, hI, hX, ⟨_, rfl, (Int.le_trans (by decide : (0:Int) ≤ 1) (by decide : (1:Int) ≤ (1:Int32).toInt)), (by decide : (1:Int32).toInt ≤ (1:Int)), (show (∀ (b : Nat → Int32) (n q c : Nat) (T : List Int), t_MC b n q c T gi → s_fct b n q → ¬ s_nst b n q → s_mi (s_W b n q) = ar1.toInt → ((1 : Int) = 1 ∧ ∃ q2, q < q2 ∧ s_Cnd b n false q c T = s_Cnd b n true q2 (c + 1) (s_pop T) ∧ t_MC b n q2 (c + 1) T gi212) ∨ ((1 : Int) = 0 ∧ ∃ p x, x ≠ 0 ∧ s_Cnd b n false q c T = s_qb b n p x ∧ t_MF gi212 (s_fk b n p x) (s_F b n p))) from (fun b n q c T h hf hN hm => (by
                                                            have hq := h.qn
                                                            have hcc := h.2.1.2.1
                                                            have hoo := h.2.1.2.2
                                                            have hn24 := h.2.1.1
                                                            have h1 := h.c1 (g1 := g17) (t_fM.rf.u9 (by decide) e17) (by rw [e17, x_up2_at]; omega) (congrArg Int32.toInt (by rw [e17, x_up2_off (Or.inr (by decide))])) (congrArg Int32.toInt (by rw [e17, x_up2_off (Or.inr (by decide))])) (funext fun j => (by rw [e17, x_up2_ne (by decide)]))
                                                            have hX := s_Cnd_s hq hN hf (show ¬ 24 ≤ c by omega) (show T.length ≠ 6 by omega)
                                                            have h2 := h1.ah (q18.2 b n _ h1.1.1.S) ⟨(hC18.1 69 18 rfl).1, (hC18.1 69 17 rfl).1⟩ (congrArg Int32.toInt (hC18.1 69 24 rfl).1) (congrArg Int32.toInt (hC18.1 69 23 rfl).1) (congrArg Int32.toInt (hC18.1 69 22 rfl).1) (funext fun j => (hC18.1 77 j rfl).1)
                                                            have hO : ¬ s_opn b n q := fun hh => by have := s_opn_mi.mp hh; omega
                                                            have hg := s_fct_gt hf
                                                            have hC : s_cmp b n (s_E b n q) := Or.inr (Or.inl ((q43 b n _ h2.1.1).mp (by omega)))
                                                            have hg2 := s_cmp_gt hC
                                                            have h3 := h2.ah (q194.2 b n _ h2.1.1.S) ⟨(hC194.1 69 18 rfl).1, (hC194.1 69 17 rfl).1⟩ (congrArg Int32.toInt (hC194.1 69 24 rfl).1) (congrArg Int32.toInt (hC194.1 69 23 rfl).1) (congrArg Int32.toInt (hC194.1 69 22 rfl).1) (funext fun j => (hC194.1 77 j rfl).1)
                                                            have hV := (h3.1.1.vT (lo := 0) (hi := 300) (by omega) (by omega) (by omega)).1
                                                            have hK : s_K b n (s_E b n (s_E b n q)) = 3 := hV.1
                                                            have hg3 := s_E_gt (b := b) (n := n) (p := s_E b n (s_E b n q)) (by rw [hK]; decide)
                                                            have h4 := h3.sm (g1 := g210) ((t_fM.rf.ux (by decide) e208).u9 (by decide) e210) (congrArg Int32.toInt (by rw [e210, x_up2_off (Or.inr (by decide)), e208, x_up2_ne (by decide)])) (congrArg Int32.toInt (by rw [e210, x_up2_off (Or.inr (by decide)), e208, x_up2_ne (by decide)])) (congrArg Int32.toInt (by rw [e210, x_up2_off (Or.inr (by decide)), e208, x_up2_ne (by decide)])) (funext fun j => (by rw [e210, x_up2_ne (by decide), e208, x_up2_ne (by decide)]))
                                                            have h5 := h4.ah (q212.2 b n _ h4.1.1.S) ⟨(hC212.1 69 18 rfl).1, (hC212.1 69 17 rfl).1⟩ (congrArg Int32.toInt (hC212.1 69 24 rfl).1) (congrArg Int32.toInt (hC212.1 69 23 rfl).1) (congrArg Int32.toInt (hC212.1 69 22 rfl).1) (funext fun j => (hC212.1 77 j rfl).1)
                                                            exact Or.inl ⟨rfl, _, (by omega), hX.trans (by unfold s_cse; rw [s_ifF hO, s_ifT hC, s_ifT hK, s_ifT hV]), h5⟩)))⟩⟩
                  · have l214 : 301 ≤ (gi194 69 15).toInt := t_ltl (t_nle h200) (by decide : (300:Int) ≤ (300:Int32).toInt) rfl
                    refine ev_loc f_X12_aCase (nx := 155) rfl rfl rfl rfl ?_
                    refine ev_ic f_X12_aCase (nx := 156) (v := 4) rfl (by decide) rfl ?_
                    refine ev_qI f_X12_aCase (nx := 159) (r := []) rfl rfl rfl rfl rfl rfl rfl (c_n_fails hI (4) (Int.le_trans (by decide : (2:Int) ≤ 4) (by decide : (4:Int) ≤ (4:Int32).toInt)) (Int.le_trans (by decide : (4:Int32).toInt ≤ (4:Int)) (by decide : (4:Int) ≤ 7))) rfl hX rfl (fun w215 gi215 gl215 gr215 l215 u215 hI hX hC215 q215 => ?_)
                    have q215 : (∀ (b : Nat → Int32) (n q : Nat), t_TM b n q gi194 → (gi194 69 18).toInt = 0 → t_MF gi215 (s_fk b n q 4) (s_F b n q)) ∧ w215.toInt = 0 := q215
                    exact ev_retZ f_X12_aCase rfl l215 (Int.le_trans u215 (by decide : (0:Int) ≤ 1)) ⟨_, _, _, rfl, hI, hX, ⟨_, rfl, l215, (Int.le_trans u215 (by decide : (0:Int) ≤ 1)), (show (∀ (b : Nat → Int32) (n q c : Nat) (T : List Int), t_MC b n q c T gi → s_fct b n q → ¬ s_nst b n q → s_mi (s_W b n q) = ar1.toInt → (w215.toInt = 1 ∧ ∃ q2, q < q2 ∧ s_Cnd b n false q c T = s_Cnd b n true q2 (c + 1) (s_pop T) ∧ t_MC b n q2 (c + 1) T gi215) ∨ (w215.toInt = 0 ∧ ∃ p x, x ≠ 0 ∧ s_Cnd b n false q c T = s_qb b n p x ∧ t_MF gi215 (s_fk b n p x) (s_F b n p))) from (fun b n q c T h hf hN hm => (by
                                                            have hq := h.qn
                                                            have hcc := h.2.1.2.1
                                                            have hoo := h.2.1.2.2
                                                            have hn24 := h.2.1.1
                                                            have h1 := h.c1 (g1 := g17) (t_fM.rf.u9 (by decide) e17) (by rw [e17, x_up2_at]; omega) (congrArg Int32.toInt (by rw [e17, x_up2_off (Or.inr (by decide))])) (congrArg Int32.toInt (by rw [e17, x_up2_off (Or.inr (by decide))])) (funext fun j => (by rw [e17, x_up2_ne (by decide)]))
                                                            have hX := s_Cnd_s hq hN hf (show ¬ 24 ≤ c by omega) (show T.length ≠ 6 by omega)
                                                            have h2 := h1.ah (q18.2 b n _ h1.1.1.S) ⟨(hC18.1 69 18 rfl).1, (hC18.1 69 17 rfl).1⟩ (congrArg Int32.toInt (hC18.1 69 24 rfl).1) (congrArg Int32.toInt (hC18.1 69 23 rfl).1) (congrArg Int32.toInt (hC18.1 69 22 rfl).1) (funext fun j => (hC18.1 77 j rfl).1)
                                                            have hO : ¬ s_opn b n q := fun hh => by have := s_opn_mi.mp hh; omega
                                                            have hg := s_fct_gt hf
                                                            have hC : s_cmp b n (s_E b n q) := Or.inr (Or.inl ((q43 b n _ h2.1.1).mp (by omega)))
                                                            have hg2 := s_cmp_gt hC
                                                            have h3 := h2.ah (q194.2 b n _ h2.1.1.S) ⟨(hC194.1 69 18 rfl).1, (hC194.1 69 17 rfl).1⟩ (congrArg Int32.toInt (hC194.1 69 24 rfl).1) (congrArg Int32.toInt (hC194.1 69 23 rfl).1) (congrArg Int32.toInt (hC194.1 69 22 rfl).1) (funext fun j => (hC194.1 77 j rfl).1)
                                                            have hV := h3.1.1.vF (lo := 0) (hi := 300) (by omega) (Or.inr (by omega))
                                                            exact Or.inr ⟨q215.2, _, 4, by decide, hX.trans (by unfold s_cse; rw [s_ifF hO, s_ifT hC, s_ifT hV.1, s_ifF hV.2]), q215.1 b n _ h3.1.1 h3.1.2.1⟩)))⟩⟩
                · have r216 : (gi194 69 12).toInt ≠ 3 := fun e => h197 (Int32.toInt_inj.mp (e.trans (by decide : (3:Int) = (3 : Int32).toInt)))
                  refine ev_loc f_X12_aCase (nx := 139) rfl rfl rfl rfl ?_
                  refine ev_ic f_X12_aCase (nx := 140) (v := 2) rfl (by decide) rfl ?_
                  refine ev_qI f_X12_aCase (nx := 143) (r := []) rfl rfl rfl rfl rfl rfl rfl (c_n_fails hI (2) (by decide : (2:Int) ≤ (2:Int32).toInt) (Int.le_trans (by decide : (2:Int32).toInt ≤ (2:Int)) (by decide : (2:Int) ≤ 7))) rfl hX rfl (fun w217 gi217 gl217 gr217 l217 u217 hI hX hC217 q217 => ?_)
                  have q217 : (∀ (b : Nat → Int32) (n q : Nat), t_TM b n q gi194 → (gi194 69 18).toInt = 0 → t_MF gi217 (s_fk b n q 2) (s_F b n q)) ∧ w217.toInt = 0 := q217
                  exact ev_retZ f_X12_aCase rfl l217 (Int.le_trans u217 (by decide : (0:Int) ≤ 1)) ⟨_, _, _, rfl, hI, hX, ⟨_, rfl, l217, (Int.le_trans u217 (by decide : (0:Int) ≤ 1)), (show (∀ (b : Nat → Int32) (n q c : Nat) (T : List Int), t_MC b n q c T gi → s_fct b n q → ¬ s_nst b n q → s_mi (s_W b n q) = ar1.toInt → (w217.toInt = 1 ∧ ∃ q2, q < q2 ∧ s_Cnd b n false q c T = s_Cnd b n true q2 (c + 1) (s_pop T) ∧ t_MC b n q2 (c + 1) T gi217) ∨ (w217.toInt = 0 ∧ ∃ p x, x ≠ 0 ∧ s_Cnd b n false q c T = s_qb b n p x ∧ t_MF gi217 (s_fk b n p x) (s_F b n p))) from (fun b n q c T h hf hN hm => (by
                                                            have hq := h.qn
                                                            have hcc := h.2.1.2.1
                                                            have hoo := h.2.1.2.2
                                                            have hn24 := h.2.1.1
                                                            have h1 := h.c1 (g1 := g17) (t_fM.rf.u9 (by decide) e17) (by rw [e17, x_up2_at]; omega) (congrArg Int32.toInt (by rw [e17, x_up2_off (Or.inr (by decide))])) (congrArg Int32.toInt (by rw [e17, x_up2_off (Or.inr (by decide))])) (funext fun j => (by rw [e17, x_up2_ne (by decide)]))
                                                            have hX := s_Cnd_s hq hN hf (show ¬ 24 ≤ c by omega) (show T.length ≠ 6 by omega)
                                                            have h2 := h1.ah (q18.2 b n _ h1.1.1.S) ⟨(hC18.1 69 18 rfl).1, (hC18.1 69 17 rfl).1⟩ (congrArg Int32.toInt (hC18.1 69 24 rfl).1) (congrArg Int32.toInt (hC18.1 69 23 rfl).1) (congrArg Int32.toInt (hC18.1 69 22 rfl).1) (funext fun j => (hC18.1 77 j rfl).1)
                                                            have hO : ¬ s_opn b n q := fun hh => by have := s_opn_mi.mp hh; omega
                                                            have hg := s_fct_gt hf
                                                            have hC : s_cmp b n (s_E b n q) := Or.inr (Or.inl ((q43 b n _ h2.1.1).mp (by omega)))
                                                            have hg2 := s_cmp_gt hC
                                                            have h3 := h2.ah (q194.2 b n _ h2.1.1.S) ⟨(hC194.1 69 18 rfl).1, (hC194.1 69 17 rfl).1⟩ (congrArg Int32.toInt (hC194.1 69 24 rfl).1) (congrArg Int32.toInt (hC194.1 69 23 rfl).1) (congrArg Int32.toInt (hC194.1 69 22 rfl).1) (funext fun j => (hC194.1 77 j rfl).1)
                                                            have hK := h3.1.1.vK (by omega)
                                                            exact Or.inr ⟨q217.2, _, 2, by decide, hX.trans (by unfold s_cse; rw [s_ifF hO, s_ifT hC, s_ifF hK]), q217.1 b n _ h3.1.1 h3.1.2.1⟩)))⟩⟩
          · have r218 : w40.toInt ≠ 0 := fun e => h41 (Int32.toInt_inj.mp (e.trans (by decide : (0:Int) = (0 : Int32).toInt)))
            have l219 : 1 ≤ w40.toInt := t_nel h41 l40 rfl rfl
            refine ev_loc f_X12_aCase (nx := 99) rfl rfl rfl rfl ?_
            refine ev_bp f_X12_aCase (nx := 101) (v := 60) rfl (by decide) rfl ?_
            refine ev_qI0 f_X12_aCase (nx := 104) (r := []) rfl rfl rfl rfl rfl rfl rfl (c_n_isSign hI (60)) rfl (fun w220 l220 u220 q220 => ?_)
            have q220 : ∀ (b : Nat → Int32) (n q : Nat), t_TM b n q gi18 → (w220.toInt = 1 ↔ s_isS b n q 60) := q220
            refine ev_if f_X12_aCase (t1 := 111) (t2 := 107) rfl rfl rfl (fun h221 => ?_) (fun h221 => ?_)
            · have u222 : w220.toInt ≤ 0 := t_equ h221 (by decide : (0:Int32).toInt ≤ (0:Int))
              refine ev_loc f_X12_aCase (nx := 112) rfl rfl rfl rfl ?_
              refine ev_bp f_X12_aCase (nx := 114) (v := 62) rfl (by decide) rfl ?_
              refine ev_qI0 f_X12_aCase (nx := 117) (r := []) rfl rfl rfl rfl rfl rfl rfl (c_n_isSign hI (62)) rfl (fun w223 l223 u223 q223 => ?_)
              have q223 : ∀ (b : Nat → Int32) (n q : Nat), t_TM b n q gi18 → (w223.toInt = 1 ↔ s_isS b n q 62) := q223
              refine ev_if f_X12_aCase (t1 := 124) (t2 := 120) rfl rfl rfl (fun h224 => ?_) (fun h224 => ?_)
              · have u225 : w223.toInt ≤ 0 := t_equ h224 (by decide : (0:Int32).toInt ≤ (0:Int))
                refine ev_ic f_X12_aCase (nx := 125) (v := 2) rfl (by decide) rfl ?_
                refine ev_loc f_X12_aCase (nx := 126) (lo' := [(2, .int 2), (0, .ref 69), (1, .int ar1)]) rfl rfl rfl rfl ?_
                refine ev_loc f_X12_aCase (nx := 127) rfl rfl rfl rfl ?_
                refine ev_qN f_X12_aCase (nx := 130) (r := []) rfl rfl rfl rfl rfl rfl rfl (c_n_aheadB hI ) rfl hX rfl (fun gi226 gl226 gr226 hI hX hC226 q226 => ?_)
                have q226 : ((gi18 69 14).toInt ≤ (gi226 69 14).toInt ∧ ((gi226 69 12).toInt ≠ 0 → (gi18 69 14).toInt < (gi226 69 14).toInt) ∧ ((gi226 69 12).toInt = 3 → 0 ≤ (gi226 69 15).toInt)) ∧ (∀ (b : Nat → Int32) (n q : Nat), t_Sm b n q gi18 → t_TM b n q gi226) := q226
                refine ev_loc f_X12_aCase (nx := 131) rfl rfl rfl rfl ?_
                refine ev_getI f_X12_aCase (nx := 134) rfl (hI.wf.s rfl) rfl rfl rfl ?_
                obtain ⟨l228, u228⟩ := hI.b (hI.wf.s (k := 69) rfl) (t_bdK rfl : t_bd 11 12 = some (0, 4))
                refine ev_ic f_X12_aCase (nx := 135) (v := 3) rfl (by decide) rfl ?_
                refine ev_if f_X12_aCase (t1 := 144) (t2 := 138) rfl rfl rfl (fun h229 => ?_) (fun h229 => ?_)
                · have u230 : (gi226 69 12).toInt ≤ 3 := t_equ h229 (by decide : (3:Int32).toInt ≤ (3:Int))
                  have l231 : 3 ≤ (gi226 69 12).toInt := t_eql h229 (by decide : (3:Int) ≤ (3:Int32).toInt)
                  refine ev_loc f_X12_aCase (nx := 145) rfl rfl rfl rfl ?_
                  refine ev_gvI f_X12_aCase (nx := 148) (w := (gi226 69 15)) rfl (hI.wf.s rfl) rfl rfl rfl rfl ?_
                  refine ev_sp f_X12_aCase (nx := 151) (v := 300) rfl (by decide) rfl ?_
                  refine ev_if f_X12_aCase (t1 := 160) (t2 := 154) rfl rfl rfl (fun h232 => ?_) (fun h232 => ?_)
                  · have u233 : (gi226 69 15).toInt ≤ 300 := t_leu h232 (by decide : (300:Int32).toInt ≤ (300:Int))
                    have l234 : (0:Int) ≤ (gi226 69 15).toInt := by omega
                    refine ev_loc f_X12_aCase (nx := 161) rfl rfl rfl rfl ?_
                    refine ev_ldI f_X12_aCase (nx := 163) (v := 100000) rfl (by decide) rfl ?_
                    refine ev_loc f_X12_aCase (nx := 164) rfl rfl rfl rfl ?_
                    refine ev_mulL f_X12_aCase (nx := 165) (c := 100000) (l := 1700000) (u := 2600000) rfl (by decide) (by decide) l39 u_a1 rfl rfl (by decide) (by decide) rfl (fun z235 e235 l235 u235 => ?_)
                    refine ev_sp f_X12_aCase (nx := 168) (v := 1000) rfl (by decide) rfl ?_
                    refine ev_loc f_X12_aCase (nx := 169) rfl rfl rfl rfl ?_
                    refine ev_aluvI f_X12_aCase (nx := 170) (w := 2000) rfl rfl rfl (by decide) rfl ?_
                    refine ev_addC f_X12_aCase (nx := 171) (c := 2000) (l := 1702000) (u := 2602000) rfl (by decide) l235 u235 rfl rfl (by decide) (by decide) rfl (fun z236 e236 l236 u236 => ?_)
                    refine ev_loc f_X12_aCase (nx := 172) rfl rfl rfl rfl ?_
                    refine ev_gvI f_X12_aCase (nx := 175) (w := (gi226 69 15)) rfl (hI.wf.s rfl) rfl rfl rfl rfl ?_
                    refine ev_addR f_X12_aCase (nx := 176) (l := 1702000) (u := 2602300) rfl l236 u236 l234 u233 rfl rfl (by decide) (by decide) rfl (fun z237 e237 l237 u237 => ?_)
                    refine ev_inV2 f_X12_aCase (nx := 179) (lo2 := [(0, .ref 69), (1, .int z237)]) rfl rfl rfl rfl f_X12_asksAlso (hI.wf.s rfl) rfl rfl rfl rfl rfl ?_
                    have kn238 := t_K_num e_p0
                    refine ev_loc f_X12_asksAlso (nx := 1) rfl rfl rfl rfl ?_
                    refine ev_getR f_X12_asksAlso (nx := 4) rfl (hI.wf.s rfl) rfl rfl (hI.wf.r rfl) rfl rfl ?_
                    refine ev_sp f_X12_asksAlso (nx := 7) (v := 1540) rfl (by decide) rfl ?_
                    refine ev_loc f_X12_asksAlso (nx := 8) rfl rfl rfl rfl ?_
                    refine ev_gvI f_X12_asksAlso (nx := 11) (w := (gi 69 25)) rfl (hI.wf.s rfl) rfl rfl ((hC226.1 69 25 rfl).1.trans ((hC18.1 69 25 rfl).1.trans ((by rw [e17]; exact x_up2_off (Or.inr (by decide)) : g17 69 25 = gi 69 25).trans rfl))) rfl ?_
                    refine ev_addK f_X12_asksAlso (nx := 12) (c := 1540) (l := 1540) (u := 1750) rfl (by decide) l5 u5 rfl rfl (by decide) (by decide) rfl (fun z239 e239 l239 u239 => ?_)
                    refine ev_loc f_X12_asksAlso (nx := 13) rfl rfl rfl rfl ?_
                    refine ev_iastT f_X12_asksAlso (nx := 14) rfl (hI.wf.s rfl) l239 (by decide) u239 (by decide) rfl (hI.astL (hI.wf.s rfl) (by decide +kernel : t_abw 70 1540 1750 1702000 2602300 = true) (t_cl1 l239 (by decide)) (t_cl2 l239 u239 (by decide) (by decide)) l237 u237 rfl) (hX.upI (t_inR (p := 1540) (m := 1750) rfl l239 (by decide) u239 (by decide) (by decide))) (fun g240 e240 hI hX => ?_)
                    refine ev_loc f_X12_asksAlso (nx := 15) rfl rfl rfl rfl ?_
                    refine ev_alu f_X12_asksAlso (nx := 16) rfl rfl rfl rfl ?_
                    refine ev_gvI f_X12_asksAlso (nx := 19) (w := (gi 69 25)) rfl (hI.wf.s rfl) rfl rfl ((by rw [e240]; exact x_up2_off (Or.inl (by decide)) : g240 69 25 = gi226 69 25).trans ((hC226.1 69 25 rfl).1.trans ((hC18.1 69 25 rfl).1.trans ((by rw [e17]; exact x_up2_off (Or.inr (by decide)) : g17 69 25 = gi 69 25).trans rfl)))) rfl ?_
                    refine ev_ic f_X12_asksAlso (nx := 20) (v := 1) rfl (by decide) rfl ?_
                    refine ev_addC f_X12_asksAlso (nx := 21) (c := 1) (l := 1) (u := 211) rfl (by decide) l5 u5 rfl rfl (by decide) (by decide) rfl (fun z241 e241 l241 u241 => ?_)
                    have u243 : z241.toInt ≤ (210:Int) := (by omega)
                    refine ev_putIT f_X12_asksAlso (nx := 24) rfl (hI.wf.s rfl) rfl rfl rfl (hI.putB (hI.wf.s rfl) rfl rfl l241 (by decide) u243 (by decide)) (hX.upI rfl) (fun g242 e242 hI hX => ?_)
                    refine ev_retK0 f_X12_asksAlso rfl rfl rfl ?_
                    refine ev_loc f_X12_aCase (nx := 180) rfl rfl rfl rfl ?_
                    refine ev_qN f_X12_aCase (nx := 183) (r := []) rfl rfl rfl rfl rfl rfl rfl (c_n_aheadB hI ) rfl hX rfl (fun gi244 gl244 gr244 hI hX hC244 q244 => ?_)
                    have q244 : ((g242 69 14).toInt ≤ (gi244 69 14).toInt ∧ ((gi244 69 12).toInt ≠ 0 → (g242 69 14).toInt < (gi244 69 14).toInt) ∧ ((gi244 69 12).toInt = 3 → 0 ≤ (gi244 69 15).toInt)) ∧ (∀ (b : Nat → Int32) (n q : Nat), t_Sm b n q g242 → t_TM b n q gi244) := q244
                    refine ev_ic f_X12_aCase (nx := 184) (v := 1) rfl (by decide) rfl ?_
                    exact ev_ret f_X12_aCase rfl rfl rfl ⟨_, _, _, rfl, hI, hX, ⟨_, rfl, (Int.le_trans (by decide : (0:Int) ≤ 1) (by decide : (1:Int) ≤ (1:Int32).toInt)), (by decide : (1:Int32).toInt ≤ (1:Int)), (show (∀ (b : Nat → Int32) (n q c : Nat) (T : List Int), t_MC b n q c T gi → s_fct b n q → ¬ s_nst b n q → s_mi (s_W b n q) = ar1.toInt → ((1 : Int) = 1 ∧ ∃ q2, q < q2 ∧ s_Cnd b n false q c T = s_Cnd b n true q2 (c + 1) (s_pop T) ∧ t_MC b n q2 (c + 1) T gi244) ∨ ((1 : Int) = 0 ∧ ∃ p x, x ≠ 0 ∧ s_Cnd b n false q c T = s_qb b n p x ∧ t_MF gi244 (s_fk b n p x) (s_F b n p))) from (fun b n q c T h hf hN hm => (by
                                                            have hq := h.qn
                                                            have hcc := h.2.1.2.1
                                                            have hoo := h.2.1.2.2
                                                            have hn24 := h.2.1.1
                                                            have h1 := h.c1 (g1 := g17) (t_fM.rf.u9 (by decide) e17) (by rw [e17, x_up2_at]; omega) (congrArg Int32.toInt (by rw [e17, x_up2_off (Or.inr (by decide))])) (congrArg Int32.toInt (by rw [e17, x_up2_off (Or.inr (by decide))])) (funext fun j => (by rw [e17, x_up2_ne (by decide)]))
                                                            have hX := s_Cnd_s hq hN hf (show ¬ 24 ≤ c by omega) (show T.length ≠ 6 by omega)
                                                            have h2 := h1.ah (q18.2 b n _ h1.1.1.S) ⟨(hC18.1 69 18 rfl).1, (hC18.1 69 17 rfl).1⟩ (congrArg Int32.toInt (hC18.1 69 24 rfl).1) (congrArg Int32.toInt (hC18.1 69 23 rfl).1) (congrArg Int32.toInt (hC18.1 69 22 rfl).1) (funext fun j => (hC18.1 77 j rfl).1)
                                                            have hO : ¬ s_opn b n q := fun hh => by have := s_opn_mi.mp hh; omega
                                                            have hg := s_fct_gt hf
                                                            have hC : s_cmp b n (s_E b n q) := Or.inl ((q40 b n _ h2.1.1).mp (by omega))
                                                            have hg2 := s_cmp_gt hC
                                                            have h3 := h2.ah (q226.2 b n _ h2.1.1.S) ⟨(hC226.1 69 18 rfl).1, (hC226.1 69 17 rfl).1⟩ (congrArg Int32.toInt (hC226.1 69 24 rfl).1) (congrArg Int32.toInt (hC226.1 69 23 rfl).1) (congrArg Int32.toInt (hC226.1 69 22 rfl).1) (funext fun j => (hC226.1 77 j rfl).1)
                                                            have hV := (h3.1.1.vT (lo := 0) (hi := 300) (by omega) (by omega) (by omega)).1
                                                            have hK : s_K b n (s_E b n (s_E b n q)) = 3 := hV.1
                                                            have hg3 := s_E_gt (b := b) (n := n) (p := s_E b n (s_E b n q)) (by rw [hK]; decide)
                                                            have h4 := h3.sm (g1 := g242) ((t_fM.rf.ux (by decide) e240).u9 (by decide) e242) (congrArg Int32.toInt (by rw [e242, x_up2_off (Or.inr (by decide)), e240, x_up2_ne (by decide)])) (congrArg Int32.toInt (by rw [e242, x_up2_off (Or.inr (by decide)), e240, x_up2_ne (by decide)])) (congrArg Int32.toInt (by rw [e242, x_up2_off (Or.inr (by decide)), e240, x_up2_ne (by decide)])) (funext fun j => (by rw [e242, x_up2_ne (by decide), e240, x_up2_ne (by decide)]))
                                                            have h5 := h4.ah (q244.2 b n _ h4.1.1.S) ⟨(hC244.1 69 18 rfl).1, (hC244.1 69 17 rfl).1⟩ (congrArg Int32.toInt (hC244.1 69 24 rfl).1) (congrArg Int32.toInt (hC244.1 69 23 rfl).1) (congrArg Int32.toInt (hC244.1 69 22 rfl).1) (funext fun j => (hC244.1 77 j rfl).1)
                                                            exact Or.inl ⟨rfl, _, (by omega), hX.trans (by unfold s_cse; rw [s_ifF hO, s_ifT hC, s_ifT hK, s_ifT hV]), h5⟩)))⟩⟩
                  · have l246 : 301 ≤ (gi226 69 15).toInt := t_ltl (t_nle h232) (by decide : (300:Int) ≤ (300:Int32).toInt) rfl
                    refine ev_loc f_X12_aCase (nx := 155) rfl rfl rfl rfl ?_
                    refine ev_ic f_X12_aCase (nx := 156) (v := 4) rfl (by decide) rfl ?_
                    refine ev_qI f_X12_aCase (nx := 159) (r := []) rfl rfl rfl rfl rfl rfl rfl (c_n_fails hI (4) (Int.le_trans (by decide : (2:Int) ≤ 4) (by decide : (4:Int) ≤ (4:Int32).toInt)) (Int.le_trans (by decide : (4:Int32).toInt ≤ (4:Int)) (by decide : (4:Int) ≤ 7))) rfl hX rfl (fun w247 gi247 gl247 gr247 l247 u247 hI hX hC247 q247 => ?_)
                    have q247 : (∀ (b : Nat → Int32) (n q : Nat), t_TM b n q gi226 → (gi226 69 18).toInt = 0 → t_MF gi247 (s_fk b n q 4) (s_F b n q)) ∧ w247.toInt = 0 := q247
                    exact ev_retZ f_X12_aCase rfl l247 (Int.le_trans u247 (by decide : (0:Int) ≤ 1)) ⟨_, _, _, rfl, hI, hX, ⟨_, rfl, l247, (Int.le_trans u247 (by decide : (0:Int) ≤ 1)), (show (∀ (b : Nat → Int32) (n q c : Nat) (T : List Int), t_MC b n q c T gi → s_fct b n q → ¬ s_nst b n q → s_mi (s_W b n q) = ar1.toInt → (w247.toInt = 1 ∧ ∃ q2, q < q2 ∧ s_Cnd b n false q c T = s_Cnd b n true q2 (c + 1) (s_pop T) ∧ t_MC b n q2 (c + 1) T gi247) ∨ (w247.toInt = 0 ∧ ∃ p x, x ≠ 0 ∧ s_Cnd b n false q c T = s_qb b n p x ∧ t_MF gi247 (s_fk b n p x) (s_F b n p))) from (fun b n q c T h hf hN hm => (by
                                                            have hq := h.qn
                                                            have hcc := h.2.1.2.1
                                                            have hoo := h.2.1.2.2
                                                            have hn24 := h.2.1.1
                                                            have h1 := h.c1 (g1 := g17) (t_fM.rf.u9 (by decide) e17) (by rw [e17, x_up2_at]; omega) (congrArg Int32.toInt (by rw [e17, x_up2_off (Or.inr (by decide))])) (congrArg Int32.toInt (by rw [e17, x_up2_off (Or.inr (by decide))])) (funext fun j => (by rw [e17, x_up2_ne (by decide)]))
                                                            have hX := s_Cnd_s hq hN hf (show ¬ 24 ≤ c by omega) (show T.length ≠ 6 by omega)
                                                            have h2 := h1.ah (q18.2 b n _ h1.1.1.S) ⟨(hC18.1 69 18 rfl).1, (hC18.1 69 17 rfl).1⟩ (congrArg Int32.toInt (hC18.1 69 24 rfl).1) (congrArg Int32.toInt (hC18.1 69 23 rfl).1) (congrArg Int32.toInt (hC18.1 69 22 rfl).1) (funext fun j => (hC18.1 77 j rfl).1)
                                                            have hO : ¬ s_opn b n q := fun hh => by have := s_opn_mi.mp hh; omega
                                                            have hg := s_fct_gt hf
                                                            have hC : s_cmp b n (s_E b n q) := Or.inl ((q40 b n _ h2.1.1).mp (by omega))
                                                            have hg2 := s_cmp_gt hC
                                                            have h3 := h2.ah (q226.2 b n _ h2.1.1.S) ⟨(hC226.1 69 18 rfl).1, (hC226.1 69 17 rfl).1⟩ (congrArg Int32.toInt (hC226.1 69 24 rfl).1) (congrArg Int32.toInt (hC226.1 69 23 rfl).1) (congrArg Int32.toInt (hC226.1 69 22 rfl).1) (funext fun j => (hC226.1 77 j rfl).1)
                                                            have hV := h3.1.1.vF (lo := 0) (hi := 300) (by omega) (Or.inr (by omega))
                                                            exact Or.inr ⟨q247.2, _, 4, by decide, hX.trans (by unfold s_cse; rw [s_ifF hO, s_ifT hC, s_ifT hV.1, s_ifF hV.2]), q247.1 b n _ h3.1.1 h3.1.2.1⟩)))⟩⟩
                · have r248 : (gi226 69 12).toInt ≠ 3 := fun e => h229 (Int32.toInt_inj.mp (e.trans (by decide : (3:Int) = (3 : Int32).toInt)))
                  refine ev_loc f_X12_aCase (nx := 139) rfl rfl rfl rfl ?_
                  refine ev_ic f_X12_aCase (nx := 140) (v := 2) rfl (by decide) rfl ?_
                  refine ev_qI f_X12_aCase (nx := 143) (r := []) rfl rfl rfl rfl rfl rfl rfl (c_n_fails hI (2) (by decide : (2:Int) ≤ (2:Int32).toInt) (Int.le_trans (by decide : (2:Int32).toInt ≤ (2:Int)) (by decide : (2:Int) ≤ 7))) rfl hX rfl (fun w249 gi249 gl249 gr249 l249 u249 hI hX hC249 q249 => ?_)
                  have q249 : (∀ (b : Nat → Int32) (n q : Nat), t_TM b n q gi226 → (gi226 69 18).toInt = 0 → t_MF gi249 (s_fk b n q 2) (s_F b n q)) ∧ w249.toInt = 0 := q249
                  exact ev_retZ f_X12_aCase rfl l249 (Int.le_trans u249 (by decide : (0:Int) ≤ 1)) ⟨_, _, _, rfl, hI, hX, ⟨_, rfl, l249, (Int.le_trans u249 (by decide : (0:Int) ≤ 1)), (show (∀ (b : Nat → Int32) (n q c : Nat) (T : List Int), t_MC b n q c T gi → s_fct b n q → ¬ s_nst b n q → s_mi (s_W b n q) = ar1.toInt → (w249.toInt = 1 ∧ ∃ q2, q < q2 ∧ s_Cnd b n false q c T = s_Cnd b n true q2 (c + 1) (s_pop T) ∧ t_MC b n q2 (c + 1) T gi249) ∨ (w249.toInt = 0 ∧ ∃ p x, x ≠ 0 ∧ s_Cnd b n false q c T = s_qb b n p x ∧ t_MF gi249 (s_fk b n p x) (s_F b n p))) from (fun b n q c T h hf hN hm => (by
                                                            have hq := h.qn
                                                            have hcc := h.2.1.2.1
                                                            have hoo := h.2.1.2.2
                                                            have hn24 := h.2.1.1
                                                            have h1 := h.c1 (g1 := g17) (t_fM.rf.u9 (by decide) e17) (by rw [e17, x_up2_at]; omega) (congrArg Int32.toInt (by rw [e17, x_up2_off (Or.inr (by decide))])) (congrArg Int32.toInt (by rw [e17, x_up2_off (Or.inr (by decide))])) (funext fun j => (by rw [e17, x_up2_ne (by decide)]))
                                                            have hX := s_Cnd_s hq hN hf (show ¬ 24 ≤ c by omega) (show T.length ≠ 6 by omega)
                                                            have h2 := h1.ah (q18.2 b n _ h1.1.1.S) ⟨(hC18.1 69 18 rfl).1, (hC18.1 69 17 rfl).1⟩ (congrArg Int32.toInt (hC18.1 69 24 rfl).1) (congrArg Int32.toInt (hC18.1 69 23 rfl).1) (congrArg Int32.toInt (hC18.1 69 22 rfl).1) (funext fun j => (hC18.1 77 j rfl).1)
                                                            have hO : ¬ s_opn b n q := fun hh => by have := s_opn_mi.mp hh; omega
                                                            have hg := s_fct_gt hf
                                                            have hC : s_cmp b n (s_E b n q) := Or.inl ((q40 b n _ h2.1.1).mp (by omega))
                                                            have hg2 := s_cmp_gt hC
                                                            have h3 := h2.ah (q226.2 b n _ h2.1.1.S) ⟨(hC226.1 69 18 rfl).1, (hC226.1 69 17 rfl).1⟩ (congrArg Int32.toInt (hC226.1 69 24 rfl).1) (congrArg Int32.toInt (hC226.1 69 23 rfl).1) (congrArg Int32.toInt (hC226.1 69 22 rfl).1) (funext fun j => (hC226.1 77 j rfl).1)
                                                            have hK := h3.1.1.vK (by omega)
                                                            exact Or.inr ⟨q249.2, _, 2, by decide, hX.trans (by unfold s_cse; rw [s_ifF hO, s_ifT hC, s_ifF hK]), q249.1 b n _ h3.1.1 h3.1.2.1⟩)))⟩⟩
              · have r250 : w223.toInt ≠ 0 := fun e => h224 (Int32.toInt_inj.mp (e.trans (by decide : (0:Int) = (0 : Int32).toInt)))
                have l251 : 1 ≤ w223.toInt := t_nel h224 l223 rfl rfl
                refine ev_ic f_X12_aCase (nx := 121) (v := 1) rfl (by decide) rfl ?_
                refine ev_jmp f_X12_aCase (nx := 125) rfl rfl rfl ?_
                refine ev_loc f_X12_aCase (nx := 126) (lo' := [(2, .int 1), (0, .ref 69), (1, .int ar1)]) rfl rfl rfl rfl ?_
                refine ev_loc f_X12_aCase (nx := 127) rfl rfl rfl rfl ?_
                refine ev_qN f_X12_aCase (nx := 130) (r := []) rfl rfl rfl rfl rfl rfl rfl (c_n_aheadB hI ) rfl hX rfl (fun gi252 gl252 gr252 hI hX hC252 q252 => ?_)
                have q252 : ((gi18 69 14).toInt ≤ (gi252 69 14).toInt ∧ ((gi252 69 12).toInt ≠ 0 → (gi18 69 14).toInt < (gi252 69 14).toInt) ∧ ((gi252 69 12).toInt = 3 → 0 ≤ (gi252 69 15).toInt)) ∧ (∀ (b : Nat → Int32) (n q : Nat), t_Sm b n q gi18 → t_TM b n q gi252) := q252
                refine ev_loc f_X12_aCase (nx := 131) rfl rfl rfl rfl ?_
                refine ev_getI f_X12_aCase (nx := 134) rfl (hI.wf.s rfl) rfl rfl rfl ?_
                obtain ⟨l254, u254⟩ := hI.b (hI.wf.s (k := 69) rfl) (t_bdK rfl : t_bd 11 12 = some (0, 4))
                refine ev_ic f_X12_aCase (nx := 135) (v := 3) rfl (by decide) rfl ?_
                refine ev_if f_X12_aCase (t1 := 144) (t2 := 138) rfl rfl rfl (fun h255 => ?_) (fun h255 => ?_)
                · have u256 : (gi252 69 12).toInt ≤ 3 := t_equ h255 (by decide : (3:Int32).toInt ≤ (3:Int))
                  have l257 : 3 ≤ (gi252 69 12).toInt := t_eql h255 (by decide : (3:Int) ≤ (3:Int32).toInt)
                  refine ev_loc f_X12_aCase (nx := 145) rfl rfl rfl rfl ?_
                  refine ev_gvI f_X12_aCase (nx := 148) (w := (gi252 69 15)) rfl (hI.wf.s rfl) rfl rfl rfl rfl ?_
                  refine ev_sp f_X12_aCase (nx := 151) (v := 300) rfl (by decide) rfl ?_
                  refine ev_if f_X12_aCase (t1 := 160) (t2 := 154) rfl rfl rfl (fun h258 => ?_) (fun h258 => ?_)
                  · have u259 : (gi252 69 15).toInt ≤ 300 := t_leu h258 (by decide : (300:Int32).toInt ≤ (300:Int))
                    have l260 : (0:Int) ≤ (gi252 69 15).toInt := by omega
                    refine ev_loc f_X12_aCase (nx := 161) rfl rfl rfl rfl ?_
                    refine ev_ldI f_X12_aCase (nx := 163) (v := 100000) rfl (by decide) rfl ?_
                    refine ev_loc f_X12_aCase (nx := 164) rfl rfl rfl rfl ?_
                    refine ev_mulL f_X12_aCase (nx := 165) (c := 100000) (l := 1700000) (u := 2600000) rfl (by decide) (by decide) l39 u_a1 rfl rfl (by decide) (by decide) rfl (fun z261 e261 l261 u261 => ?_)
                    refine ev_sp f_X12_aCase (nx := 168) (v := 1000) rfl (by decide) rfl ?_
                    refine ev_loc f_X12_aCase (nx := 169) rfl rfl rfl rfl ?_
                    refine ev_aluvI f_X12_aCase (nx := 170) (w := 1000) rfl rfl rfl (by decide) rfl ?_
                    refine ev_addC f_X12_aCase (nx := 171) (c := 1000) (l := 1701000) (u := 2601000) rfl (by decide) l261 u261 rfl rfl (by decide) (by decide) rfl (fun z262 e262 l262 u262 => ?_)
                    refine ev_loc f_X12_aCase (nx := 172) rfl rfl rfl rfl ?_
                    refine ev_gvI f_X12_aCase (nx := 175) (w := (gi252 69 15)) rfl (hI.wf.s rfl) rfl rfl rfl rfl ?_
                    refine ev_addR f_X12_aCase (nx := 176) (l := 1701000) (u := 2601300) rfl l262 u262 l260 u259 rfl rfl (by decide) (by decide) rfl (fun z263 e263 l263 u263 => ?_)
                    refine ev_inV2 f_X12_aCase (nx := 179) (lo2 := [(0, .ref 69), (1, .int z263)]) rfl rfl rfl rfl f_X12_asksAlso (hI.wf.s rfl) rfl rfl rfl rfl rfl ?_
                    have kn264 := t_K_num e_p0
                    refine ev_loc f_X12_asksAlso (nx := 1) rfl rfl rfl rfl ?_
                    refine ev_getR f_X12_asksAlso (nx := 4) rfl (hI.wf.s rfl) rfl rfl (hI.wf.r rfl) rfl rfl ?_
                    refine ev_sp f_X12_asksAlso (nx := 7) (v := 1540) rfl (by decide) rfl ?_
                    refine ev_loc f_X12_asksAlso (nx := 8) rfl rfl rfl rfl ?_
                    refine ev_gvI f_X12_asksAlso (nx := 11) (w := (gi 69 25)) rfl (hI.wf.s rfl) rfl rfl ((hC252.1 69 25 rfl).1.trans ((hC18.1 69 25 rfl).1.trans ((by rw [e17]; exact x_up2_off (Or.inr (by decide)) : g17 69 25 = gi 69 25).trans rfl))) rfl ?_
                    refine ev_addK f_X12_asksAlso (nx := 12) (c := 1540) (l := 1540) (u := 1750) rfl (by decide) l5 u5 rfl rfl (by decide) (by decide) rfl (fun z265 e265 l265 u265 => ?_)
                    refine ev_loc f_X12_asksAlso (nx := 13) rfl rfl rfl rfl ?_
                    refine ev_iastT f_X12_asksAlso (nx := 14) rfl (hI.wf.s rfl) l265 (by decide) u265 (by decide) rfl (hI.astL (hI.wf.s rfl) (by decide +kernel : t_abw 70 1540 1750 1701000 2601300 = true) (t_cl1 l265 (by decide)) (t_cl2 l265 u265 (by decide) (by decide)) l263 u263 rfl) (hX.upI (t_inR (p := 1540) (m := 1750) rfl l265 (by decide) u265 (by decide) (by decide))) (fun g266 e266 hI hX => ?_)
                    refine ev_loc f_X12_asksAlso (nx := 15) rfl rfl rfl rfl ?_
                    refine ev_alu f_X12_asksAlso (nx := 16) rfl rfl rfl rfl ?_
                    refine ev_gvI f_X12_asksAlso (nx := 19) (w := (gi 69 25)) rfl (hI.wf.s rfl) rfl rfl ((by rw [e266]; exact x_up2_off (Or.inl (by decide)) : g266 69 25 = gi252 69 25).trans ((hC252.1 69 25 rfl).1.trans ((hC18.1 69 25 rfl).1.trans ((by rw [e17]; exact x_up2_off (Or.inr (by decide)) : g17 69 25 = gi 69 25).trans rfl)))) rfl ?_
                    refine ev_ic f_X12_asksAlso (nx := 20) (v := 1) rfl (by decide) rfl ?_
                    refine ev_addC f_X12_asksAlso (nx := 21) (c := 1) (l := 1) (u := 211) rfl (by decide) l5 u5 rfl rfl (by decide) (by decide) rfl (fun z267 e267 l267 u267 => ?_)
                    have u269 : z267.toInt ≤ (210:Int) := (by omega)
                    refine ev_putIT f_X12_asksAlso (nx := 24) rfl (hI.wf.s rfl) rfl rfl rfl (hI.putB (hI.wf.s rfl) rfl rfl l267 (by decide) u269 (by decide)) (hX.upI rfl) (fun g268 e268 hI hX => ?_)
                    refine ev_retK0 f_X12_asksAlso rfl rfl rfl ?_
                    refine ev_loc f_X12_aCase (nx := 180) rfl rfl rfl rfl ?_
                    refine ev_qN f_X12_aCase (nx := 183) (r := []) rfl rfl rfl rfl rfl rfl rfl (c_n_aheadB hI ) rfl hX rfl (fun gi270 gl270 gr270 hI hX hC270 q270 => ?_)
                    have q270 : ((g268 69 14).toInt ≤ (gi270 69 14).toInt ∧ ((gi270 69 12).toInt ≠ 0 → (g268 69 14).toInt < (gi270 69 14).toInt) ∧ ((gi270 69 12).toInt = 3 → 0 ≤ (gi270 69 15).toInt)) ∧ (∀ (b : Nat → Int32) (n q : Nat), t_Sm b n q g268 → t_TM b n q gi270) := q270
                    refine ev_ic f_X12_aCase (nx := 184) (v := 1) rfl (by decide) rfl ?_
                    exact ev_ret f_X12_aCase rfl rfl rfl ⟨_, _, _, rfl, hI, hX, ⟨_, rfl, (Int.le_trans (by decide : (0:Int) ≤ 1) (by decide : (1:Int) ≤ (1:Int32).toInt)), (by decide : (1:Int32).toInt ≤ (1:Int)), (show (∀ (b : Nat → Int32) (n q c : Nat) (T : List Int), t_MC b n q c T gi → s_fct b n q → ¬ s_nst b n q → s_mi (s_W b n q) = ar1.toInt → ((1 : Int) = 1 ∧ ∃ q2, q < q2 ∧ s_Cnd b n false q c T = s_Cnd b n true q2 (c + 1) (s_pop T) ∧ t_MC b n q2 (c + 1) T gi270) ∨ ((1 : Int) = 0 ∧ ∃ p x, x ≠ 0 ∧ s_Cnd b n false q c T = s_qb b n p x ∧ t_MF gi270 (s_fk b n p x) (s_F b n p))) from (fun b n q c T h hf hN hm => (by
                                                            have hq := h.qn
                                                            have hcc := h.2.1.2.1
                                                            have hoo := h.2.1.2.2
                                                            have hn24 := h.2.1.1
                                                            have h1 := h.c1 (g1 := g17) (t_fM.rf.u9 (by decide) e17) (by rw [e17, x_up2_at]; omega) (congrArg Int32.toInt (by rw [e17, x_up2_off (Or.inr (by decide))])) (congrArg Int32.toInt (by rw [e17, x_up2_off (Or.inr (by decide))])) (funext fun j => (by rw [e17, x_up2_ne (by decide)]))
                                                            have hX := s_Cnd_s hq hN hf (show ¬ 24 ≤ c by omega) (show T.length ≠ 6 by omega)
                                                            have h2 := h1.ah (q18.2 b n _ h1.1.1.S) ⟨(hC18.1 69 18 rfl).1, (hC18.1 69 17 rfl).1⟩ (congrArg Int32.toInt (hC18.1 69 24 rfl).1) (congrArg Int32.toInt (hC18.1 69 23 rfl).1) (congrArg Int32.toInt (hC18.1 69 22 rfl).1) (funext fun j => (hC18.1 77 j rfl).1)
                                                            have hO : ¬ s_opn b n q := fun hh => by have := s_opn_mi.mp hh; omega
                                                            have hg := s_fct_gt hf
                                                            have hC : s_cmp b n (s_E b n q) := Or.inl ((q40 b n _ h2.1.1).mp (by omega))
                                                            have hg2 := s_cmp_gt hC
                                                            have h3 := h2.ah (q252.2 b n _ h2.1.1.S) ⟨(hC252.1 69 18 rfl).1, (hC252.1 69 17 rfl).1⟩ (congrArg Int32.toInt (hC252.1 69 24 rfl).1) (congrArg Int32.toInt (hC252.1 69 23 rfl).1) (congrArg Int32.toInt (hC252.1 69 22 rfl).1) (funext fun j => (hC252.1 77 j rfl).1)
                                                            have hV := (h3.1.1.vT (lo := 0) (hi := 300) (by omega) (by omega) (by omega)).1
                                                            have hK : s_K b n (s_E b n (s_E b n q)) = 3 := hV.1
                                                            have hg3 := s_E_gt (b := b) (n := n) (p := s_E b n (s_E b n q)) (by rw [hK]; decide)
                                                            have h4 := h3.sm (g1 := g268) ((t_fM.rf.ux (by decide) e266).u9 (by decide) e268) (congrArg Int32.toInt (by rw [e268, x_up2_off (Or.inr (by decide)), e266, x_up2_ne (by decide)])) (congrArg Int32.toInt (by rw [e268, x_up2_off (Or.inr (by decide)), e266, x_up2_ne (by decide)])) (congrArg Int32.toInt (by rw [e268, x_up2_off (Or.inr (by decide)), e266, x_up2_ne (by decide)])) (funext fun j => (by rw [e268, x_up2_ne (by decide), e266, x_up2_ne (by decide)]))
                                                            have h5 := h4.ah (q270.2 b n _ h4.1.1.S) ⟨(hC270.1 69 18 rfl).1, (hC270.1 69 17 rfl).1⟩ (congrArg Int32.toInt (hC270.1 69 24 rfl).1) (congrArg Int32.toInt (hC270.1 69 23 rfl).1) (congrArg Int32.toInt (hC270.1 69 22 rfl).1) (funext fun j => (hC270.1 77 j rfl).1)
                                                            exact Or.inl ⟨rfl, _, (by omega), hX.trans (by unfold s_cse; rw [s_ifF hO, s_ifT hC, s_ifT hK, s_ifT hV]), h5⟩)))⟩⟩
                  · have l272 : 301 ≤ (gi252 69 15).toInt := t_ltl (t_nle h258) (by decide : (300:Int) ≤ (300:Int32).toInt) rfl
                    refine ev_loc f_X12_aCase (nx := 155) rfl rfl rfl rfl ?_
                    refine ev_ic f_X12_aCase (nx := 156) (v := 4) rfl (by decide) rfl ?_
                    refine ev_qI f_X12_aCase (nx := 159) (r := []) rfl rfl rfl rfl rfl rfl rfl (c_n_fails hI (4) (Int.le_trans (by decide : (2:Int) ≤ 4) (by decide : (4:Int) ≤ (4:Int32).toInt)) (Int.le_trans (by decide : (4:Int32).toInt ≤ (4:Int)) (by decide : (4:Int) ≤ 7))) rfl hX rfl (fun w273 gi273 gl273 gr273 l273 u273 hI hX hC273 q273 => ?_)
                    have q273 : (∀ (b : Nat → Int32) (n q : Nat), t_TM b n q gi252 → (gi252 69 18).toInt = 0 → t_MF gi273 (s_fk b n q 4) (s_F b n q)) ∧ w273.toInt = 0 := q273
                    exact ev_retZ f_X12_aCase rfl l273 (Int.le_trans u273 (by decide : (0:Int) ≤ 1)) ⟨_, _, _, rfl, hI, hX, ⟨_, rfl, l273, (Int.le_trans u273 (by decide : (0:Int) ≤ 1)), (show (∀ (b : Nat → Int32) (n q c : Nat) (T : List Int), t_MC b n q c T gi → s_fct b n q → ¬ s_nst b n q → s_mi (s_W b n q) = ar1.toInt → (w273.toInt = 1 ∧ ∃ q2, q < q2 ∧ s_Cnd b n false q c T = s_Cnd b n true q2 (c + 1) (s_pop T) ∧ t_MC b n q2 (c + 1) T gi273) ∨ (w273.toInt = 0 ∧ ∃ p x, x ≠ 0 ∧ s_Cnd b n false q c T = s_qb b n p x ∧ t_MF gi273 (s_fk b n p x) (s_F b n p))) from (fun b n q c T h hf hN hm => (by
                                                            have hq := h.qn
                                                            have hcc := h.2.1.2.1
                                                            have hoo := h.2.1.2.2
                                                            have hn24 := h.2.1.1
                                                            have h1 := h.c1 (g1 := g17) (t_fM.rf.u9 (by decide) e17) (by rw [e17, x_up2_at]; omega) (congrArg Int32.toInt (by rw [e17, x_up2_off (Or.inr (by decide))])) (congrArg Int32.toInt (by rw [e17, x_up2_off (Or.inr (by decide))])) (funext fun j => (by rw [e17, x_up2_ne (by decide)]))
                                                            have hX := s_Cnd_s hq hN hf (show ¬ 24 ≤ c by omega) (show T.length ≠ 6 by omega)
                                                            have h2 := h1.ah (q18.2 b n _ h1.1.1.S) ⟨(hC18.1 69 18 rfl).1, (hC18.1 69 17 rfl).1⟩ (congrArg Int32.toInt (hC18.1 69 24 rfl).1) (congrArg Int32.toInt (hC18.1 69 23 rfl).1) (congrArg Int32.toInt (hC18.1 69 22 rfl).1) (funext fun j => (hC18.1 77 j rfl).1)
                                                            have hO : ¬ s_opn b n q := fun hh => by have := s_opn_mi.mp hh; omega
                                                            have hg := s_fct_gt hf
                                                            have hC : s_cmp b n (s_E b n q) := Or.inl ((q40 b n _ h2.1.1).mp (by omega))
                                                            have hg2 := s_cmp_gt hC
                                                            have h3 := h2.ah (q252.2 b n _ h2.1.1.S) ⟨(hC252.1 69 18 rfl).1, (hC252.1 69 17 rfl).1⟩ (congrArg Int32.toInt (hC252.1 69 24 rfl).1) (congrArg Int32.toInt (hC252.1 69 23 rfl).1) (congrArg Int32.toInt (hC252.1 69 22 rfl).1) (funext fun j => (hC252.1 77 j rfl).1)
                                                            have hV := h3.1.1.vF (lo := 0) (hi := 300) (by omega) (Or.inr (by omega))
                                                            exact Or.inr ⟨q273.2, _, 4, by decide, hX.trans (by unfold s_cse; rw [s_ifF hO, s_ifT hC, s_ifT hV.1, s_ifF hV.2]), q273.1 b n _ h3.1.1 h3.1.2.1⟩)))⟩⟩
                · have r274 : (gi252 69 12).toInt ≠ 3 := fun e => h255 (Int32.toInt_inj.mp (e.trans (by decide : (3:Int) = (3 : Int32).toInt)))
                  refine ev_loc f_X12_aCase (nx := 139) rfl rfl rfl rfl ?_
                  refine ev_ic f_X12_aCase (nx := 140) (v := 2) rfl (by decide) rfl ?_
                  refine ev_qI f_X12_aCase (nx := 143) (r := []) rfl rfl rfl rfl rfl rfl rfl (c_n_fails hI (2) (by decide : (2:Int) ≤ (2:Int32).toInt) (Int.le_trans (by decide : (2:Int32).toInt ≤ (2:Int)) (by decide : (2:Int) ≤ 7))) rfl hX rfl (fun w275 gi275 gl275 gr275 l275 u275 hI hX hC275 q275 => ?_)
                  have q275 : (∀ (b : Nat → Int32) (n q : Nat), t_TM b n q gi252 → (gi252 69 18).toInt = 0 → t_MF gi275 (s_fk b n q 2) (s_F b n q)) ∧ w275.toInt = 0 := q275
                  exact ev_retZ f_X12_aCase rfl l275 (Int.le_trans u275 (by decide : (0:Int) ≤ 1)) ⟨_, _, _, rfl, hI, hX, ⟨_, rfl, l275, (Int.le_trans u275 (by decide : (0:Int) ≤ 1)), (show (∀ (b : Nat → Int32) (n q c : Nat) (T : List Int), t_MC b n q c T gi → s_fct b n q → ¬ s_nst b n q → s_mi (s_W b n q) = ar1.toInt → (w275.toInt = 1 ∧ ∃ q2, q < q2 ∧ s_Cnd b n false q c T = s_Cnd b n true q2 (c + 1) (s_pop T) ∧ t_MC b n q2 (c + 1) T gi275) ∨ (w275.toInt = 0 ∧ ∃ p x, x ≠ 0 ∧ s_Cnd b n false q c T = s_qb b n p x ∧ t_MF gi275 (s_fk b n p x) (s_F b n p))) from (fun b n q c T h hf hN hm => (by
                                                            have hq := h.qn
                                                            have hcc := h.2.1.2.1
                                                            have hoo := h.2.1.2.2
                                                            have hn24 := h.2.1.1
                                                            have h1 := h.c1 (g1 := g17) (t_fM.rf.u9 (by decide) e17) (by rw [e17, x_up2_at]; omega) (congrArg Int32.toInt (by rw [e17, x_up2_off (Or.inr (by decide))])) (congrArg Int32.toInt (by rw [e17, x_up2_off (Or.inr (by decide))])) (funext fun j => (by rw [e17, x_up2_ne (by decide)]))
                                                            have hX := s_Cnd_s hq hN hf (show ¬ 24 ≤ c by omega) (show T.length ≠ 6 by omega)
                                                            have h2 := h1.ah (q18.2 b n _ h1.1.1.S) ⟨(hC18.1 69 18 rfl).1, (hC18.1 69 17 rfl).1⟩ (congrArg Int32.toInt (hC18.1 69 24 rfl).1) (congrArg Int32.toInt (hC18.1 69 23 rfl).1) (congrArg Int32.toInt (hC18.1 69 22 rfl).1) (funext fun j => (hC18.1 77 j rfl).1)
                                                            have hO : ¬ s_opn b n q := fun hh => by have := s_opn_mi.mp hh; omega
                                                            have hg := s_fct_gt hf
                                                            have hC : s_cmp b n (s_E b n q) := Or.inl ((q40 b n _ h2.1.1).mp (by omega))
                                                            have hg2 := s_cmp_gt hC
                                                            have h3 := h2.ah (q252.2 b n _ h2.1.1.S) ⟨(hC252.1 69 18 rfl).1, (hC252.1 69 17 rfl).1⟩ (congrArg Int32.toInt (hC252.1 69 24 rfl).1) (congrArg Int32.toInt (hC252.1 69 23 rfl).1) (congrArg Int32.toInt (hC252.1 69 22 rfl).1) (funext fun j => (hC252.1 77 j rfl).1)
                                                            have hK := h3.1.1.vK (by omega)
                                                            exact Or.inr ⟨q275.2, _, 2, by decide, hX.trans (by unfold s_cse; rw [s_ifF hO, s_ifT hC, s_ifF hK]), q275.1 b n _ h3.1.1 h3.1.2.1⟩)))⟩⟩
            · have r276 : w220.toInt ≠ 0 := fun e => h221 (Int32.toInt_inj.mp (e.trans (by decide : (0:Int) = (0 : Int32).toInt)))
              have l277 : 1 ≤ w220.toInt := t_nel h221 l220 rfl rfl
              refine ev_ic f_X12_aCase (nx := 108) (v := 0) rfl (by decide) rfl ?_
              refine ev_jmp f_X12_aCase (nx := 125) rfl rfl rfl ?_
              refine ev_loc f_X12_aCase (nx := 126) (lo' := [(2, .int 0), (0, .ref 69), (1, .int ar1)]) rfl rfl rfl rfl ?_
              refine ev_loc f_X12_aCase (nx := 127) rfl rfl rfl rfl ?_
              refine ev_qN f_X12_aCase (nx := 130) (r := []) rfl rfl rfl rfl rfl rfl rfl (c_n_aheadB hI ) rfl hX rfl (fun gi278 gl278 gr278 hI hX hC278 q278 => ?_)
              have q278 : ((gi18 69 14).toInt ≤ (gi278 69 14).toInt ∧ ((gi278 69 12).toInt ≠ 0 → (gi18 69 14).toInt < (gi278 69 14).toInt) ∧ ((gi278 69 12).toInt = 3 → 0 ≤ (gi278 69 15).toInt)) ∧ (∀ (b : Nat → Int32) (n q : Nat), t_Sm b n q gi18 → t_TM b n q gi278) := q278
              refine ev_loc f_X12_aCase (nx := 131) rfl rfl rfl rfl ?_
              refine ev_getI f_X12_aCase (nx := 134) rfl (hI.wf.s rfl) rfl rfl rfl ?_
              obtain ⟨l280, u280⟩ := hI.b (hI.wf.s (k := 69) rfl) (t_bdK rfl : t_bd 11 12 = some (0, 4))
              refine ev_ic f_X12_aCase (nx := 135) (v := 3) rfl (by decide) rfl ?_
              refine ev_if f_X12_aCase (t1 := 144) (t2 := 138) rfl rfl rfl (fun h281 => ?_) (fun h281 => ?_)
              · have u282 : (gi278 69 12).toInt ≤ 3 := t_equ h281 (by decide : (3:Int32).toInt ≤ (3:Int))
                have l283 : 3 ≤ (gi278 69 12).toInt := t_eql h281 (by decide : (3:Int) ≤ (3:Int32).toInt)
                refine ev_loc f_X12_aCase (nx := 145) rfl rfl rfl rfl ?_
                refine ev_gvI f_X12_aCase (nx := 148) (w := (gi278 69 15)) rfl (hI.wf.s rfl) rfl rfl rfl rfl ?_
                refine ev_sp f_X12_aCase (nx := 151) (v := 300) rfl (by decide) rfl ?_
                refine ev_if f_X12_aCase (t1 := 160) (t2 := 154) rfl rfl rfl (fun h284 => ?_) (fun h284 => ?_)
                · have u285 : (gi278 69 15).toInt ≤ 300 := t_leu h284 (by decide : (300:Int32).toInt ≤ (300:Int))
                  have l286 : (0:Int) ≤ (gi278 69 15).toInt := by omega
                  refine ev_loc f_X12_aCase (nx := 161) rfl rfl rfl rfl ?_
                  refine ev_ldI f_X12_aCase (nx := 163) (v := 100000) rfl (by decide) rfl ?_
                  refine ev_loc f_X12_aCase (nx := 164) rfl rfl rfl rfl ?_
                  refine ev_mulL f_X12_aCase (nx := 165) (c := 100000) (l := 1700000) (u := 2600000) rfl (by decide) (by decide) l39 u_a1 rfl rfl (by decide) (by decide) rfl (fun z287 e287 l287 u287 => ?_)
                  refine ev_sp f_X12_aCase (nx := 168) (v := 1000) rfl (by decide) rfl ?_
                  refine ev_loc f_X12_aCase (nx := 169) rfl rfl rfl rfl ?_
                  refine ev_aluvI f_X12_aCase (nx := 170) (w := 0) rfl rfl rfl (by decide) rfl ?_
                  refine ev_addC f_X12_aCase (nx := 171) (c := 0) (l := 1700000) (u := 2600000) rfl (by decide) l287 u287 rfl rfl (by decide) (by decide) rfl (fun z288 e288 l288 u288 => ?_)
                  refine ev_loc f_X12_aCase (nx := 172) rfl rfl rfl rfl ?_
                  refine ev_gvI f_X12_aCase (nx := 175) (w := (gi278 69 15)) rfl (hI.wf.s rfl) rfl rfl rfl rfl ?_
                  refine ev_addR f_X12_aCase (nx := 176) (l := 1700000) (u := 2600300) rfl l288 u288 l286 u285 rfl rfl (by decide) (by decide) rfl (fun z289 e289 l289 u289 => ?_)
                  refine ev_inV2 f_X12_aCase (nx := 179) (lo2 := [(0, .ref 69), (1, .int z289)]) rfl rfl rfl rfl f_X12_asksAlso (hI.wf.s rfl) rfl rfl rfl rfl rfl ?_
                  have kn290 := t_K_num e_p0
                  refine ev_loc f_X12_asksAlso (nx := 1) rfl rfl rfl rfl ?_
                  refine ev_getR f_X12_asksAlso (nx := 4) rfl (hI.wf.s rfl) rfl rfl (hI.wf.r rfl) rfl rfl ?_
                  refine ev_sp f_X12_asksAlso (nx := 7) (v := 1540) rfl (by decide) rfl ?_
                  refine ev_loc f_X12_asksAlso (nx := 8) rfl rfl rfl rfl ?_
                  refine ev_gvI f_X12_asksAlso (nx := 11) (w := (gi 69 25)) rfl (hI.wf.s rfl) rfl rfl ((hC278.1 69 25 rfl).1.trans ((hC18.1 69 25 rfl).1.trans ((by rw [e17]; exact x_up2_off (Or.inr (by decide)) : g17 69 25 = gi 69 25).trans rfl))) rfl ?_
                  refine ev_addK f_X12_asksAlso (nx := 12) (c := 1540) (l := 1540) (u := 1750) rfl (by decide) l5 u5 rfl rfl (by decide) (by decide) rfl (fun z291 e291 l291 u291 => ?_)
                  refine ev_loc f_X12_asksAlso (nx := 13) rfl rfl rfl rfl ?_
                  refine ev_iastT f_X12_asksAlso (nx := 14) rfl (hI.wf.s rfl) l291 (by decide) u291 (by decide) rfl (hI.astL (hI.wf.s rfl) (by decide +kernel : t_abw 70 1540 1750 1700000 2600300 = true) (t_cl1 l291 (by decide)) (t_cl2 l291 u291 (by decide) (by decide)) l289 u289 rfl) (hX.upI (t_inR (p := 1540) (m := 1750) rfl l291 (by decide) u291 (by decide) (by decide))) (fun g292 e292 hI hX => ?_)
                  refine ev_loc f_X12_asksAlso (nx := 15) rfl rfl rfl rfl ?_
                  refine ev_alu f_X12_asksAlso (nx := 16) rfl rfl rfl rfl ?_
                  refine ev_gvI f_X12_asksAlso (nx := 19) (w := (gi 69 25)) rfl (hI.wf.s rfl) rfl rfl ((by rw [e292]; exact x_up2_off (Or.inl (by decide)) : g292 69 25 = gi278 69 25).trans ((hC278.1 69 25 rfl).1.trans ((hC18.1 69 25 rfl).1.trans ((by rw [e17]; exact x_up2_off (Or.inr (by decide)) : g17 69 25 = gi 69 25).trans rfl)))) rfl ?_
                  refine ev_ic f_X12_asksAlso (nx := 20) (v := 1) rfl (by decide) rfl ?_
                  refine ev_addC f_X12_asksAlso (nx := 21) (c := 1) (l := 1) (u := 211) rfl (by decide) l5 u5 rfl rfl (by decide) (by decide) rfl (fun z293 e293 l293 u293 => ?_)
                  have u295 : z293.toInt ≤ (210:Int) := (by omega)
                  refine ev_putIT f_X12_asksAlso (nx := 24) rfl (hI.wf.s rfl) rfl rfl rfl (hI.putB (hI.wf.s rfl) rfl rfl l293 (by decide) u295 (by decide)) (hX.upI rfl) (fun g294 e294 hI hX => ?_)
                  refine ev_retK0 f_X12_asksAlso rfl rfl rfl ?_
                  refine ev_loc f_X12_aCase (nx := 180) rfl rfl rfl rfl ?_
                  refine ev_qN f_X12_aCase (nx := 183) (r := []) rfl rfl rfl rfl rfl rfl rfl (c_n_aheadB hI ) rfl hX rfl (fun gi296 gl296 gr296 hI hX hC296 q296 => ?_)
                  have q296 : ((g294 69 14).toInt ≤ (gi296 69 14).toInt ∧ ((gi296 69 12).toInt ≠ 0 → (g294 69 14).toInt < (gi296 69 14).toInt) ∧ ((gi296 69 12).toInt = 3 → 0 ≤ (gi296 69 15).toInt)) ∧ (∀ (b : Nat → Int32) (n q : Nat), t_Sm b n q g294 → t_TM b n q gi296) := q296
                  refine ev_ic f_X12_aCase (nx := 184) (v := 1) rfl (by decide) rfl ?_
                  exact ev_ret f_X12_aCase rfl rfl rfl ⟨_, _, _, rfl, hI, hX, ⟨_, rfl, (Int.le_trans (by decide : (0:Int) ≤ 1) (by decide : (1:Int) ≤ (1:Int32).toInt)), (by decide : (1:Int32).toInt ≤ (1:Int)), (show (∀ (b : Nat → Int32) (n q c : Nat) (T : List Int), t_MC b n q c T gi → s_fct b n q → ¬ s_nst b n q → s_mi (s_W b n q) = ar1.toInt → ((1 : Int) = 1 ∧ ∃ q2, q < q2 ∧ s_Cnd b n false q c T = s_Cnd b n true q2 (c + 1) (s_pop T) ∧ t_MC b n q2 (c + 1) T gi296) ∨ ((1 : Int) = 0 ∧ ∃ p x, x ≠ 0 ∧ s_Cnd b n false q c T = s_qb b n p x ∧ t_MF gi296 (s_fk b n p x) (s_F b n p))) from (fun b n q c T h hf hN hm => (by
                                                            have hq := h.qn
                                                            have hcc := h.2.1.2.1
                                                            have hoo := h.2.1.2.2
                                                            have hn24 := h.2.1.1
                                                            have h1 := h.c1 (g1 := g17) (t_fM.rf.u9 (by decide) e17) (by rw [e17, x_up2_at]; omega) (congrArg Int32.toInt (by rw [e17, x_up2_off (Or.inr (by decide))])) (congrArg Int32.toInt (by rw [e17, x_up2_off (Or.inr (by decide))])) (funext fun j => (by rw [e17, x_up2_ne (by decide)]))
                                                            have hX := s_Cnd_s hq hN hf (show ¬ 24 ≤ c by omega) (show T.length ≠ 6 by omega)
                                                            have h2 := h1.ah (q18.2 b n _ h1.1.1.S) ⟨(hC18.1 69 18 rfl).1, (hC18.1 69 17 rfl).1⟩ (congrArg Int32.toInt (hC18.1 69 24 rfl).1) (congrArg Int32.toInt (hC18.1 69 23 rfl).1) (congrArg Int32.toInt (hC18.1 69 22 rfl).1) (funext fun j => (hC18.1 77 j rfl).1)
                                                            have hO : ¬ s_opn b n q := fun hh => by have := s_opn_mi.mp hh; omega
                                                            have hg := s_fct_gt hf
                                                            have hC : s_cmp b n (s_E b n q) := Or.inl ((q40 b n _ h2.1.1).mp (by omega))
                                                            have hg2 := s_cmp_gt hC
                                                            have h3 := h2.ah (q278.2 b n _ h2.1.1.S) ⟨(hC278.1 69 18 rfl).1, (hC278.1 69 17 rfl).1⟩ (congrArg Int32.toInt (hC278.1 69 24 rfl).1) (congrArg Int32.toInt (hC278.1 69 23 rfl).1) (congrArg Int32.toInt (hC278.1 69 22 rfl).1) (funext fun j => (hC278.1 77 j rfl).1)
                                                            have hV := (h3.1.1.vT (lo := 0) (hi := 300) (by omega) (by omega) (by omega)).1
                                                            have hK : s_K b n (s_E b n (s_E b n q)) = 3 := hV.1
                                                            have hg3 := s_E_gt (b := b) (n := n) (p := s_E b n (s_E b n q)) (by rw [hK]; decide)
                                                            have h4 := h3.sm (g1 := g294) ((t_fM.rf.ux (by decide) e292).u9 (by decide) e294) (congrArg Int32.toInt (by rw [e294, x_up2_off (Or.inr (by decide)), e292, x_up2_ne (by decide)])) (congrArg Int32.toInt (by rw [e294, x_up2_off (Or.inr (by decide)), e292, x_up2_ne (by decide)])) (congrArg Int32.toInt (by rw [e294, x_up2_off (Or.inr (by decide)), e292, x_up2_ne (by decide)])) (funext fun j => (by rw [e294, x_up2_ne (by decide), e292, x_up2_ne (by decide)]))
                                                            have h5 := h4.ah (q296.2 b n _ h4.1.1.S) ⟨(hC296.1 69 18 rfl).1, (hC296.1 69 17 rfl).1⟩ (congrArg Int32.toInt (hC296.1 69 24 rfl).1) (congrArg Int32.toInt (hC296.1 69 23 rfl).1) (congrArg Int32.toInt (hC296.1 69 22 rfl).1) (funext fun j => (hC296.1 77 j rfl).1)
                                                            exact Or.inl ⟨rfl, _, (by omega), hX.trans (by unfold s_cse; rw [s_ifF hO, s_ifT hC, s_ifT hK, s_ifT hV]), h5⟩)))⟩⟩
                · have l298 : 301 ≤ (gi278 69 15).toInt := t_ltl (t_nle h284) (by decide : (300:Int) ≤ (300:Int32).toInt) rfl
                  refine ev_loc f_X12_aCase (nx := 155) rfl rfl rfl rfl ?_
                  refine ev_ic f_X12_aCase (nx := 156) (v := 4) rfl (by decide) rfl ?_
                  refine ev_qI f_X12_aCase (nx := 159) (r := []) rfl rfl rfl rfl rfl rfl rfl (c_n_fails hI (4) (Int.le_trans (by decide : (2:Int) ≤ 4) (by decide : (4:Int) ≤ (4:Int32).toInt)) (Int.le_trans (by decide : (4:Int32).toInt ≤ (4:Int)) (by decide : (4:Int) ≤ 7))) rfl hX rfl (fun w299 gi299 gl299 gr299 l299 u299 hI hX hC299 q299 => ?_)
                  have q299 : (∀ (b : Nat → Int32) (n q : Nat), t_TM b n q gi278 → (gi278 69 18).toInt = 0 → t_MF gi299 (s_fk b n q 4) (s_F b n q)) ∧ w299.toInt = 0 := q299
                  exact ev_retZ f_X12_aCase rfl l299 (Int.le_trans u299 (by decide : (0:Int) ≤ 1)) ⟨_, _, _, rfl, hI, hX, ⟨_, rfl, l299, (Int.le_trans u299 (by decide : (0:Int) ≤ 1)), (show (∀ (b : Nat → Int32) (n q c : Nat) (T : List Int), t_MC b n q c T gi → s_fct b n q → ¬ s_nst b n q → s_mi (s_W b n q) = ar1.toInt → (w299.toInt = 1 ∧ ∃ q2, q < q2 ∧ s_Cnd b n false q c T = s_Cnd b n true q2 (c + 1) (s_pop T) ∧ t_MC b n q2 (c + 1) T gi299) ∨ (w299.toInt = 0 ∧ ∃ p x, x ≠ 0 ∧ s_Cnd b n false q c T = s_qb b n p x ∧ t_MF gi299 (s_fk b n p x) (s_F b n p))) from (fun b n q c T h hf hN hm => (by
                                                            have hq := h.qn
                                                            have hcc := h.2.1.2.1
                                                            have hoo := h.2.1.2.2
                                                            have hn24 := h.2.1.1
                                                            have h1 := h.c1 (g1 := g17) (t_fM.rf.u9 (by decide) e17) (by rw [e17, x_up2_at]; omega) (congrArg Int32.toInt (by rw [e17, x_up2_off (Or.inr (by decide))])) (congrArg Int32.toInt (by rw [e17, x_up2_off (Or.inr (by decide))])) (funext fun j => (by rw [e17, x_up2_ne (by decide)]))
                                                            have hX := s_Cnd_s hq hN hf (show ¬ 24 ≤ c by omega) (show T.length ≠ 6 by omega)
                                                            have h2 := h1.ah (q18.2 b n _ h1.1.1.S) ⟨(hC18.1 69 18 rfl).1, (hC18.1 69 17 rfl).1⟩ (congrArg Int32.toInt (hC18.1 69 24 rfl).1) (congrArg Int32.toInt (hC18.1 69 23 rfl).1) (congrArg Int32.toInt (hC18.1 69 22 rfl).1) (funext fun j => (hC18.1 77 j rfl).1)
                                                            have hO : ¬ s_opn b n q := fun hh => by have := s_opn_mi.mp hh; omega
                                                            have hg := s_fct_gt hf
                                                            have hC : s_cmp b n (s_E b n q) := Or.inl ((q40 b n _ h2.1.1).mp (by omega))
                                                            have hg2 := s_cmp_gt hC
                                                            have h3 := h2.ah (q278.2 b n _ h2.1.1.S) ⟨(hC278.1 69 18 rfl).1, (hC278.1 69 17 rfl).1⟩ (congrArg Int32.toInt (hC278.1 69 24 rfl).1) (congrArg Int32.toInt (hC278.1 69 23 rfl).1) (congrArg Int32.toInt (hC278.1 69 22 rfl).1) (funext fun j => (hC278.1 77 j rfl).1)
                                                            have hV := h3.1.1.vF (lo := 0) (hi := 300) (by omega) (Or.inr (by omega))
                                                            exact Or.inr ⟨q299.2, _, 4, by decide, hX.trans (by unfold s_cse; rw [s_ifF hO, s_ifT hC, s_ifT hV.1, s_ifF hV.2]), q299.1 b n _ h3.1.1 h3.1.2.1⟩)))⟩⟩
              · have r300 : (gi278 69 12).toInt ≠ 3 := fun e => h281 (Int32.toInt_inj.mp (e.trans (by decide : (3:Int) = (3 : Int32).toInt)))
                refine ev_loc f_X12_aCase (nx := 139) rfl rfl rfl rfl ?_
                refine ev_ic f_X12_aCase (nx := 140) (v := 2) rfl (by decide) rfl ?_
                refine ev_qI f_X12_aCase (nx := 143) (r := []) rfl rfl rfl rfl rfl rfl rfl (c_n_fails hI (2) (by decide : (2:Int) ≤ (2:Int32).toInt) (Int.le_trans (by decide : (2:Int32).toInt ≤ (2:Int)) (by decide : (2:Int) ≤ 7))) rfl hX rfl (fun w301 gi301 gl301 gr301 l301 u301 hI hX hC301 q301 => ?_)
                have q301 : (∀ (b : Nat → Int32) (n q : Nat), t_TM b n q gi278 → (gi278 69 18).toInt = 0 → t_MF gi301 (s_fk b n q 2) (s_F b n q)) ∧ w301.toInt = 0 := q301
                exact ev_retZ f_X12_aCase rfl l301 (Int.le_trans u301 (by decide : (0:Int) ≤ 1)) ⟨_, _, _, rfl, hI, hX, ⟨_, rfl, l301, (Int.le_trans u301 (by decide : (0:Int) ≤ 1)), (show (∀ (b : Nat → Int32) (n q c : Nat) (T : List Int), t_MC b n q c T gi → s_fct b n q → ¬ s_nst b n q → s_mi (s_W b n q) = ar1.toInt → (w301.toInt = 1 ∧ ∃ q2, q < q2 ∧ s_Cnd b n false q c T = s_Cnd b n true q2 (c + 1) (s_pop T) ∧ t_MC b n q2 (c + 1) T gi301) ∨ (w301.toInt = 0 ∧ ∃ p x, x ≠ 0 ∧ s_Cnd b n false q c T = s_qb b n p x ∧ t_MF gi301 (s_fk b n p x) (s_F b n p))) from (fun b n q c T h hf hN hm => (by
                                                            have hq := h.qn
                                                            have hcc := h.2.1.2.1
                                                            have hoo := h.2.1.2.2
                                                            have hn24 := h.2.1.1
                                                            have h1 := h.c1 (g1 := g17) (t_fM.rf.u9 (by decide) e17) (by rw [e17, x_up2_at]; omega) (congrArg Int32.toInt (by rw [e17, x_up2_off (Or.inr (by decide))])) (congrArg Int32.toInt (by rw [e17, x_up2_off (Or.inr (by decide))])) (funext fun j => (by rw [e17, x_up2_ne (by decide)]))
                                                            have hX := s_Cnd_s hq hN hf (show ¬ 24 ≤ c by omega) (show T.length ≠ 6 by omega)
                                                            have h2 := h1.ah (q18.2 b n _ h1.1.1.S) ⟨(hC18.1 69 18 rfl).1, (hC18.1 69 17 rfl).1⟩ (congrArg Int32.toInt (hC18.1 69 24 rfl).1) (congrArg Int32.toInt (hC18.1 69 23 rfl).1) (congrArg Int32.toInt (hC18.1 69 22 rfl).1) (funext fun j => (hC18.1 77 j rfl).1)
                                                            have hO : ¬ s_opn b n q := fun hh => by have := s_opn_mi.mp hh; omega
                                                            have hg := s_fct_gt hf
                                                            have hC : s_cmp b n (s_E b n q) := Or.inl ((q40 b n _ h2.1.1).mp (by omega))
                                                            have hg2 := s_cmp_gt hC
                                                            have h3 := h2.ah (q278.2 b n _ h2.1.1.S) ⟨(hC278.1 69 18 rfl).1, (hC278.1 69 17 rfl).1⟩ (congrArg Int32.toInt (hC278.1 69 24 rfl).1) (congrArg Int32.toInt (hC278.1 69 23 rfl).1) (congrArg Int32.toInt (hC278.1 69 22 rfl).1) (funext fun j => (hC278.1 77 j rfl).1)
                                                            have hK := h3.1.1.vK (by omega)
                                                            exact Or.inr ⟨q301.2, _, 2, by decide, hX.trans (by unfold s_cse; rw [s_ifF hO, s_ifT hC, s_ifF hK]), q301.1 b n _ h3.1.1 h3.1.2.1⟩)))⟩⟩
