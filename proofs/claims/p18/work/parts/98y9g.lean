/-! ===== printed by riv.py: the RIVER of the other side ===== -/
noncomputable def wl_n_riverPart : List (Nat × Nat) := [(69, 12), (69, 13), (69, 14), (69, 15), (69, 17), (69, 18), (69, 20), (70, 140011400), (70, 140111401), (70, 140211402), (70, 140411404), (70, 140511405), (70, 140611406), (70, 140711407), (70, 141011452), (70, 141111458), (70, 145211482), (70, 145311483), (70, 145411484), (70, 145511485), (70, 145611486), (70, 148211500), (70, 148311501), (70, 148411502), (71, 7210089)]
noncomputable def Q_n_riverPart (gi : Nat → Nat → Int32) (gl : Nat → Nat → Int64) (gr : Nat → Nat → Value) : Int32 → (Nat → Nat → Int32) → (Nat → Nat → Int64) → (Nat → Nat → Value) → Prop := fun (v : Int32) (gi2 : Nat → Nat → Int32) (gl2 : Nat → Nat → Int64) (gr2 : Nat → Nat → Value) => ∀ (b : Nat → Int32) (n q : Nat) (D : s_D), t_MS b n q D gi gl → (v.toInt = 1 ∧ ∃ q2 D2, s_semi b n (s_part b n q D) = s_ok q2 D2 ∧ t_MS b n q2 D2 gi2 gl2) ∨ (v.toInt = 0 ∧ ∃ p x D2, x ≠ 0 ∧ s_semi b n (s_part b n q D) = s_bad b n p x D2 ∧ t_MF gi2 (s_fk b n p x) (s_F b n p))
theorem c_n_riverPart {X : x_Ext} {d : Nat} {sh : List (Nat ⊕ (Nat × Nat))} {gi : Nat → Nat → Int32} {gl : Nat → Nat → Int64} {gr : Nat → Nat → Value} (hI : t_I sh gi gr) : x_Me X (d + 9) n_X12_riverPart [.ref 69] (sh, gi, gl, gr) (t_PI wl_n_riverPart sh gi gl gr 0 1 (Q_n_riverPart gi gl gr)) := by
  have hX : t_X wl_n_riverPart sh gi gl gr gi gl gr := t_X.rf
  refine me_i f_X12_riverPart (hI.wf.s rfl) rfl rfl rfl ?_
  refine ev_loc f_X12_riverPart (nx := 1) rfl rfl rfl rfl ?_
  refine ev_heap f_X12_riverPart (nx := 3) rfl rfl rfl rfl ?_
  refine ev_qI0 f_X12_riverPart (nx := 6) (r := []) rfl rfl rfl rfl rfl rfl rfl (c_n_inWords hI ) rfl (fun w1 l1 u1 q1 => ?_)
  have q1 : (∀ (b : Nat → Int32) (n q : Nat), t_TM b n q gi → w1.toInt = s_mi (s_W b n q)) ∧ (0 ≤ w1.toInt → (gi 69 12).toInt = 2) := q1
  refine ev_loc f_X12_riverPart (nx := 7) (lo' := [(2, .int w1), (0, .ref 69)]) rfl rfl rfl rfl ?_
  refine ev_loc f_X12_riverPart (nx := 8) rfl rfl rfl rfl ?_
  have h2 : w1.toInt = 0 ∨ w1.toInt = 1 ∨ w1.toInt = 2 ∨ w1.toInt = 3 ∨ w1.toInt = 4 ∨ w1.toInt = 5 ∨ (w1.toInt ≠ 0 ∧ w1.toInt ≠ 1 ∧ w1.toInt ≠ 2 ∧ w1.toInt ≠ 3 ∧ w1.toInt ≠ 4 ∧ w1.toInt ≠ 5) := by have := l1; have := u1; omega
  rcases h2 with h2 | h2 | h2 | h2 | h2 | h2 | h2
  · refine ev_swt f_X12_riverPart (nx := 48) (c := 0) rfl h2 rfl ?_
    refine ev_loc f_X12_riverPart (nx := 49) rfl rfl rfl rfl ?_
    refine ev_qI f_X12_riverPart (nx := 52) (r := []) rfl rfl rfl rfl rfl rfl rfl (c_n_aPort hI ) rfl hX rfl (fun w3 gi3 gl3 gr3 l3 u3 hI hX hC3 q3 => ?_)
    have q3 : ∀ (b : Nat → Int32) (n q : Nat) (D : s_D), t_MS b n q D gi gl → (w3.toInt = 1 ∧ ∃ q2 D2, s_port b n q D = s_ok q2 D2 ∧ t_MS b n q2 D2 gi3 gl3) ∨ (w3.toInt = 0 ∧ ∃ p x D2, x ≠ 0 ∧ s_port b n q D = s_bad b n p x D2 ∧ t_MF gi3 (s_fk b n p x) (s_F b n p)) := q3
    refine ev_loc f_X12_riverPart (nx := 53) (lo' := [(1, .int w3), (2, .int w1), (0, .ref 69)]) rfl rfl rfl rfl ?_
    refine ev_jmp f_X12_riverPart (nx := 87) rfl rfl rfl ?_
    refine ev_loc f_X12_riverPart (nx := 88) rfl rfl rfl rfl ?_
    refine ev_if f_X12_riverPart (t1 := 104) (t2 := 91) rfl rfl rfl (fun h4 => ?_) (fun h4 => ?_)
    · have u5 : w3.toInt ≤ 0 := t_equ h4 (by decide : (0:Int32).toInt ≤ (0:Int))
      refine ev_ic f_X12_riverPart (nx := 105) (v := 0) rfl (by decide) rfl ?_
      exact ev_ret f_X12_riverPart rfl rfl rfl ⟨_, _, _, rfl, hI, hX, ⟨_, rfl, (by decide : (0:Int) ≤ (0:Int32).toInt), (Int.le_trans (by decide : (0:Int32).toInt ≤ (0:Int)) (by decide : (0:Int) ≤ 1)), (show ∀ (b : Nat → Int32) (n q : Nat) (D : s_D), t_MS b n q D gi gl → ((0 : Int) = 1 ∧ ∃ q2 D2, s_semi b n (s_part b n q D) = s_ok q2 D2 ∧ t_MS b n q2 D2 gi3 gl3) ∨ ((0 : Int) = 0 ∧ ∃ p x D2, x ≠ 0 ∧ s_semi b n (s_part b n q D) = s_bad b n p x D2 ∧ t_MF gi3 (s_fk b n p x) (s_F b n p)) from (by
                                                            intro b n q D h
                                                            have hk := q1.1 b n q h.1
                                                            have hP := s_part_0 (D := D) ((s_mi_W (i := 0) (by decide)).mp (show s_mi (s_W b n q) = s_mil.getD 0 0 from (by rw [← hk]; show w1.toInt = 0; omega)))
                                                            obtain ⟨_, p, x, D2, hx, hX, hf⟩ := (q3 b n q D h).resolve_left (fun hh => absurd hh.1 (by omega))
                                                            exact Or.inr ⟨rfl, p, x, D2, hx, s_semi_b1 hx (hP.trans hX), hf⟩))⟩⟩
    · have r6 : w3.toInt ≠ 0 := fun e => h4 (Int32.toInt_inj.mp (e.trans (by decide : (0:Int) = (0 : Int32).toInt)))
      have l7 : 1 ≤ w3.toInt := t_nel h4 l3 rfl rfl
      refine ev_loc f_X12_riverPart (nx := 92) rfl rfl rfl rfl ?_
      refine ev_bp f_X12_riverPart (nx := 94) (v := 59) rfl (by decide) rfl ?_
      refine ev_qI f_X12_riverPart (nx := 97) (r := []) rfl rfl rfl rfl rfl rfl rfl (c_n_wantSign hI (59)) rfl hX rfl (fun w8 gi8 gl8 gr8 l8 u8 hI hX hC8 q8 => ?_)
      have q8 : ∀ (b : Nat → Int32) (n q : Nat), t_TM b n q gi3 → (w8.toInt = 1 ∧ s_isS b n q 59 ∧ t_TM b n (s_E b n q) gi8 ∧ t_mf gi3 gi8) ∨ (w8.toInt = 0 ∧ ¬ s_isS b n q 59 ∧ ((gi3 69 18).toInt = 0 → t_MF gi8 (s_fk b n q 2) (s_F b n q))) := q8
      refine ev_if f_X12_riverPart (t1 := 104) (t2 := 100) rfl rfl rfl (fun h9 => ?_) (fun h9 => ?_)
      · have u10 : w8.toInt ≤ 0 := t_equ h9 (by decide : (0:Int32).toInt ≤ (0:Int))
        refine ev_ic f_X12_riverPart (nx := 105) (v := 0) rfl (by decide) rfl ?_
        exact ev_ret f_X12_riverPart rfl rfl rfl ⟨_, _, _, rfl, hI, hX, ⟨_, rfl, (by decide : (0:Int) ≤ (0:Int32).toInt), (Int.le_trans (by decide : (0:Int32).toInt ≤ (0:Int)) (by decide : (0:Int) ≤ 1)), (show ∀ (b : Nat → Int32) (n q : Nat) (D : s_D), t_MS b n q D gi gl → ((0 : Int) = 1 ∧ ∃ q2 D2, s_semi b n (s_part b n q D) = s_ok q2 D2 ∧ t_MS b n q2 D2 gi8 gl8) ∨ ((0 : Int) = 0 ∧ ∃ p x D2, x ≠ 0 ∧ s_semi b n (s_part b n q D) = s_bad b n p x D2 ∧ t_MF gi8 (s_fk b n p x) (s_F b n p)) from (by
                                                            intro b n q D h
                                                            have hk := q1.1 b n q h.1
                                                            have hP := s_part_0 (D := D) ((s_mi_W (i := 0) (by decide)).mp (show s_mi (s_W b n q) = s_mil.getD 0 0 from (by rw [← hk]; show w1.toInt = 0; omega)))
                                                            obtain ⟨_, q2, D2, hX, h2⟩ := (q3 b n q D h).resolve_right (fun hh => absurd hh.1 (by omega))
                                                            obtain ⟨_, hS, hf⟩ := (q8 b n q2 h2.1).resolve_left (fun hh => absurd hh.1 (by omega))
                                                            exact Or.inr ⟨rfl, q2, 2, D2, by decide, s_semi_b2 (hP.trans hX) hS, hf h2.2.2.1⟩))⟩⟩
      · have r11 : w8.toInt ≠ 0 := fun e => h9 (Int32.toInt_inj.mp (e.trans (by decide : (0:Int) = (0 : Int32).toInt)))
        have l12 : 1 ≤ w8.toInt := t_nel h9 l8 rfl rfl
        refine ev_ic f_X12_riverPart (nx := 101) (v := 1) rfl (by decide) rfl ?_
        refine ev_jmp f_X12_riverPart (nx := 105) rfl rfl rfl ?_
        exact ev_ret f_X12_riverPart rfl rfl rfl ⟨_, _, _, rfl, hI, hX, ⟨_, rfl, (Int.le_trans (by decide : (0:Int) ≤ 1) (by decide : (1:Int) ≤ (1:Int32).toInt)), (by decide : (1:Int32).toInt ≤ (1:Int)), (show ∀ (b : Nat → Int32) (n q : Nat) (D : s_D), t_MS b n q D gi gl → ((1 : Int) = 1 ∧ ∃ q2 D2, s_semi b n (s_part b n q D) = s_ok q2 D2 ∧ t_MS b n q2 D2 gi8 gl8) ∨ ((1 : Int) = 0 ∧ ∃ p x D2, x ≠ 0 ∧ s_semi b n (s_part b n q D) = s_bad b n p x D2 ∧ t_MF gi8 (s_fk b n p x) (s_F b n p)) from (by
                                                            intro b n q D h
                                                            have hk := q1.1 b n q h.1
                                                            have hP := s_part_0 (D := D) ((s_mi_W (i := 0) (by decide)).mp (show s_mi (s_W b n q) = s_mil.getD 0 0 from (by rw [← hk]; show w1.toInt = 0; omega)))
                                                            obtain ⟨_, q2, D2, hX, h2⟩ := (q3 b n q D h).resolve_right (fun hh => absurd hh.1 (by omega))
                                                            obtain ⟨_, hS, hT, hM⟩ := (q8 b n q2 h2.1).resolve_right (fun hh => absurd hh.1 (by omega))
                                                            exact Or.inl ⟨rfl, _, _, s_semi_ok (hP.trans hX) hS, h2.tk hT hM (fun j => (hC8.1 70 j rfl).1) (fun j => (hC8.1 71 j rfl).2.1) (hC8.1 69 20 rfl).1⟩))⟩⟩
  · refine ev_swt f_X12_riverPart (nx := 72) (c := 1) rfl h2 rfl ?_
    refine ev_loc f_X12_riverPart (nx := 73) rfl rfl rfl rfl ?_
    refine ev_loc f_X12_riverPart (nx := 74) rfl rfl rfl rfl ?_
    refine ev_qI f_X12_riverPart (nx := 77) (r := []) rfl rfl rfl rfl rfl rfl rfl (c_n_once1 hI (w1) (Int.le_of_eq h2.symm) (Int.le_of_eq h2)) rfl hX rfl (fun w13 gi13 gl13 gr13 l13 u13 hI hX hC13 q13 => ?_)
    have q13 : ∀ (b : Nat → Int32) (n q : Nat) (D : s_D), t_MS b n q D gi gl → (w13.toInt = 1 ∧ ∃ q2 D2, s_turns b n q D = s_ok q2 D2 ∧ t_MS b n q2 D2 gi13 gl13) ∨ (w13.toInt = 0 ∧ ∃ p x D2, x ≠ 0 ∧ s_turns b n q D = s_bad b n p x D2 ∧ t_MF gi13 (s_fk b n p x) (s_F b n p)) := q13
    refine ev_loc f_X12_riverPart (nx := 78) (lo' := [(1, .int w13), (2, .int w1), (0, .ref 69)]) rfl rfl rfl rfl ?_
    refine ev_jmp f_X12_riverPart (nx := 87) rfl rfl rfl ?_
    refine ev_loc f_X12_riverPart (nx := 88) rfl rfl rfl rfl ?_
    refine ev_if f_X12_riverPart (t1 := 104) (t2 := 91) rfl rfl rfl (fun h14 => ?_) (fun h14 => ?_)
    · have u15 : w13.toInt ≤ 0 := t_equ h14 (by decide : (0:Int32).toInt ≤ (0:Int))
      refine ev_ic f_X12_riverPart (nx := 105) (v := 0) rfl (by decide) rfl ?_
      exact ev_ret f_X12_riverPart rfl rfl rfl ⟨_, _, _, rfl, hI, hX, ⟨_, rfl, (by decide : (0:Int) ≤ (0:Int32).toInt), (Int.le_trans (by decide : (0:Int32).toInt ≤ (0:Int)) (by decide : (0:Int) ≤ 1)), (show ∀ (b : Nat → Int32) (n q : Nat) (D : s_D), t_MS b n q D gi gl → ((0 : Int) = 1 ∧ ∃ q2 D2, s_semi b n (s_part b n q D) = s_ok q2 D2 ∧ t_MS b n q2 D2 gi13 gl13) ∨ ((0 : Int) = 0 ∧ ∃ p x D2, x ≠ 0 ∧ s_semi b n (s_part b n q D) = s_bad b n p x D2 ∧ t_MF gi13 (s_fk b n p x) (s_F b n p)) from (by
                                                            intro b n q D h
                                                            have hk := q1.1 b n q h.1
                                                            have hP := s_part_2 (D := D) ((s_mi_W (i := 2) (by decide)).mp (show s_mi (s_W b n q) = s_mil.getD 2 0 from (by rw [← hk]; show w1.toInt = 1; omega)))
                                                            obtain ⟨_, p, x, D2, hx, hX, hf⟩ := (q13 b n q D h).resolve_left (fun hh => absurd hh.1 (by omega))
                                                            exact Or.inr ⟨rfl, p, x, D2, hx, s_semi_b1 hx (hP.trans hX), hf⟩))⟩⟩
    · have r16 : w13.toInt ≠ 0 := fun e => h14 (Int32.toInt_inj.mp (e.trans (by decide : (0:Int) = (0 : Int32).toInt)))
      have l17 : 1 ≤ w13.toInt := t_nel h14 l13 rfl rfl
      refine ev_loc f_X12_riverPart (nx := 92) rfl rfl rfl rfl ?_
      refine ev_bp f_X12_riverPart (nx := 94) (v := 59) rfl (by decide) rfl ?_
      refine ev_qI f_X12_riverPart (nx := 97) (r := []) rfl rfl rfl rfl rfl rfl rfl (c_n_wantSign hI (59)) rfl hX rfl (fun w18 gi18 gl18 gr18 l18 u18 hI hX hC18 q18 => ?_)
      have q18 : ∀ (b : Nat → Int32) (n q : Nat), t_TM b n q gi13 → (w18.toInt = 1 ∧ s_isS b n q 59 ∧ t_TM b n (s_E b n q) gi18 ∧ t_mf gi13 gi18) ∨ (w18.toInt = 0 ∧ ¬ s_isS b n q 59 ∧ ((gi13 69 18).toInt = 0 → t_MF gi18 (s_fk b n q 2) (s_F b n q))) := q18
      refine ev_if f_X12_riverPart (t1 := 104) (t2 := 100) rfl rfl rfl (fun h19 => ?_) (fun h19 => ?_)
      · have u20 : w18.toInt ≤ 0 := t_equ h19 (by decide : (0:Int32).toInt ≤ (0:Int))
        refine ev_ic f_X12_riverPart (nx := 105) (v := 0) rfl (by decide) rfl ?_
        exact ev_ret f_X12_riverPart rfl rfl rfl ⟨_, _, _, rfl, hI, hX, ⟨_, rfl, (by decide : (0:Int) ≤ (0:Int32).toInt), (Int.le_trans (by decide : (0:Int32).toInt ≤ (0:Int)) (by decide : (0:Int) ≤ 1)), (show ∀ (b : Nat → Int32) (n q : Nat) (D : s_D), t_MS b n q D gi gl → ((0 : Int) = 1 ∧ ∃ q2 D2, s_semi b n (s_part b n q D) = s_ok q2 D2 ∧ t_MS b n q2 D2 gi18 gl18) ∨ ((0 : Int) = 0 ∧ ∃ p x D2, x ≠ 0 ∧ s_semi b n (s_part b n q D) = s_bad b n p x D2 ∧ t_MF gi18 (s_fk b n p x) (s_F b n p)) from (by
                                                            intro b n q D h
                                                            have hk := q1.1 b n q h.1
                                                            have hP := s_part_2 (D := D) ((s_mi_W (i := 2) (by decide)).mp (show s_mi (s_W b n q) = s_mil.getD 2 0 from (by rw [← hk]; show w1.toInt = 1; omega)))
                                                            obtain ⟨_, q2, D2, hX, h2⟩ := (q13 b n q D h).resolve_right (fun hh => absurd hh.1 (by omega))
                                                            obtain ⟨_, hS, hf⟩ := (q18 b n q2 h2.1).resolve_left (fun hh => absurd hh.1 (by omega))
                                                            exact Or.inr ⟨rfl, q2, 2, D2, by decide, s_semi_b2 (hP.trans hX) hS, hf h2.2.2.1⟩))⟩⟩
      · have r21 : w18.toInt ≠ 0 := fun e => h19 (Int32.toInt_inj.mp (e.trans (by decide : (0:Int) = (0 : Int32).toInt)))
        have l22 : 1 ≤ w18.toInt := t_nel h19 l18 rfl rfl
        refine ev_ic f_X12_riverPart (nx := 101) (v := 1) rfl (by decide) rfl ?_
        refine ev_jmp f_X12_riverPart (nx := 105) rfl rfl rfl ?_
        exact ev_ret f_X12_riverPart rfl rfl rfl ⟨_, _, _, rfl, hI, hX, ⟨_, rfl, (Int.le_trans (by decide : (0:Int) ≤ 1) (by decide : (1:Int) ≤ (1:Int32).toInt)), (by decide : (1:Int32).toInt ≤ (1:Int)), (show ∀ (b : Nat → Int32) (n q : Nat) (D : s_D), t_MS b n q D gi gl → ((1 : Int) = 1 ∧ ∃ q2 D2, s_semi b n (s_part b n q D) = s_ok q2 D2 ∧ t_MS b n q2 D2 gi18 gl18) ∨ ((1 : Int) = 0 ∧ ∃ p x D2, x ≠ 0 ∧ s_semi b n (s_part b n q D) = s_bad b n p x D2 ∧ t_MF gi18 (s_fk b n p x) (s_F b n p)) from (by
                                                            intro b n q D h
                                                            have hk := q1.1 b n q h.1
                                                            have hP := s_part_2 (D := D) ((s_mi_W (i := 2) (by decide)).mp (show s_mi (s_W b n q) = s_mil.getD 2 0 from (by rw [← hk]; show w1.toInt = 1; omega)))
                                                            obtain ⟨_, q2, D2, hX, h2⟩ := (q13 b n q D h).resolve_right (fun hh => absurd hh.1 (by omega))
                                                            obtain ⟨_, hS, hT, hM⟩ := (q18 b n q2 h2.1).resolve_right (fun hh => absurd hh.1 (by omega))
                                                            exact Or.inl ⟨rfl, _, _, s_semi_ok (hP.trans hX) hS, h2.tk hT hM (fun j => (hC18.1 70 j rfl).1) (fun j => (hC18.1 71 j rfl).2.1) (hC18.1 69 20 rfl).1⟩))⟩⟩
  · refine ev_swt f_X12_riverPart (nx := 72) (c := 2) rfl h2 rfl ?_
    refine ev_loc f_X12_riverPart (nx := 73) rfl rfl rfl rfl ?_
    refine ev_loc f_X12_riverPart (nx := 74) rfl rfl rfl rfl ?_
    refine ev_qI f_X12_riverPart (nx := 77) (r := []) rfl rfl rfl rfl rfl rfl rfl (c_n_once2 hI (w1) (Int.le_of_eq h2.symm) (Int.le_of_eq h2)) rfl hX rfl (fun w23 gi23 gl23 gr23 l23 u23 hI hX hC23 q23 => ?_)
    have q23 : ∀ (b : Nat → Int32) (n q : Nat) (D : s_D), t_MS b n q D gi gl → (w23.toInt = 1 ∧ ∃ q2 D2, s_frost b n q D = s_ok q2 D2 ∧ t_MS b n q2 D2 gi23 gl23) ∨ (w23.toInt = 0 ∧ ∃ p x D2, x ≠ 0 ∧ s_frost b n q D = s_bad b n p x D2 ∧ t_MF gi23 (s_fk b n p x) (s_F b n p)) := q23
    refine ev_loc f_X12_riverPart (nx := 78) (lo' := [(1, .int w23), (2, .int w1), (0, .ref 69)]) rfl rfl rfl rfl ?_
    refine ev_jmp f_X12_riverPart (nx := 87) rfl rfl rfl ?_
    refine ev_loc f_X12_riverPart (nx := 88) rfl rfl rfl rfl ?_
    refine ev_if f_X12_riverPart (t1 := 104) (t2 := 91) rfl rfl rfl (fun h24 => ?_) (fun h24 => ?_)
    · have u25 : w23.toInt ≤ 0 := t_equ h24 (by decide : (0:Int32).toInt ≤ (0:Int))
      refine ev_ic f_X12_riverPart (nx := 105) (v := 0) rfl (by decide) rfl ?_
      exact ev_ret f_X12_riverPart rfl rfl rfl ⟨_, _, _, rfl, hI, hX, ⟨_, rfl, (by decide : (0:Int) ≤ (0:Int32).toInt), (Int.le_trans (by decide : (0:Int32).toInt ≤ (0:Int)) (by decide : (0:Int) ≤ 1)), (show ∀ (b : Nat → Int32) (n q : Nat) (D : s_D), t_MS b n q D gi gl → ((0 : Int) = 1 ∧ ∃ q2 D2, s_semi b n (s_part b n q D) = s_ok q2 D2 ∧ t_MS b n q2 D2 gi23 gl23) ∨ ((0 : Int) = 0 ∧ ∃ p x D2, x ≠ 0 ∧ s_semi b n (s_part b n q D) = s_bad b n p x D2 ∧ t_MF gi23 (s_fk b n p x) (s_F b n p)) from (by
                                                            intro b n q D h
                                                            have hk := q1.1 b n q h.1
                                                            have hP := s_part_3 (D := D) ((s_mi_W (i := 3) (by decide)).mp (show s_mi (s_W b n q) = s_mil.getD 3 0 from (by rw [← hk]; show w1.toInt = 2; omega)))
                                                            obtain ⟨_, p, x, D2, hx, hX, hf⟩ := (q23 b n q D h).resolve_left (fun hh => absurd hh.1 (by omega))
                                                            exact Or.inr ⟨rfl, p, x, D2, hx, s_semi_b1 hx (hP.trans hX), hf⟩))⟩⟩
    · have r26 : w23.toInt ≠ 0 := fun e => h24 (Int32.toInt_inj.mp (e.trans (by decide : (0:Int) = (0 : Int32).toInt)))
      have l27 : 1 ≤ w23.toInt := t_nel h24 l23 rfl rfl
      refine ev_loc f_X12_riverPart (nx := 92) rfl rfl rfl rfl ?_
      refine ev_bp f_X12_riverPart (nx := 94) (v := 59) rfl (by decide) rfl ?_
      refine ev_qI f_X12_riverPart (nx := 97) (r := []) rfl rfl rfl rfl rfl rfl rfl (c_n_wantSign hI (59)) rfl hX rfl (fun w28 gi28 gl28 gr28 l28 u28 hI hX hC28 q28 => ?_)
      have q28 : ∀ (b : Nat → Int32) (n q : Nat), t_TM b n q gi23 → (w28.toInt = 1 ∧ s_isS b n q 59 ∧ t_TM b n (s_E b n q) gi28 ∧ t_mf gi23 gi28) ∨ (w28.toInt = 0 ∧ ¬ s_isS b n q 59 ∧ ((gi23 69 18).toInt = 0 → t_MF gi28 (s_fk b n q 2) (s_F b n q))) := q28
      refine ev_if f_X12_riverPart (t1 := 104) (t2 := 100) rfl rfl rfl (fun h29 => ?_) (fun h29 => ?_)
      · have u30 : w28.toInt ≤ 0 := t_equ h29 (by decide : (0:Int32).toInt ≤ (0:Int))
        refine ev_ic f_X12_riverPart (nx := 105) (v := 0) rfl (by decide) rfl ?_
        exact ev_ret f_X12_riverPart rfl rfl rfl ⟨_, _, _, rfl, hI, hX, ⟨_, rfl, (by decide : (0:Int) ≤ (0:Int32).toInt), (Int.le_trans (by decide : (0:Int32).toInt ≤ (0:Int)) (by decide : (0:Int) ≤ 1)), (show ∀ (b : Nat → Int32) (n q : Nat) (D : s_D), t_MS b n q D gi gl → ((0 : Int) = 1 ∧ ∃ q2 D2, s_semi b n (s_part b n q D) = s_ok q2 D2 ∧ t_MS b n q2 D2 gi28 gl28) ∨ ((0 : Int) = 0 ∧ ∃ p x D2, x ≠ 0 ∧ s_semi b n (s_part b n q D) = s_bad b n p x D2 ∧ t_MF gi28 (s_fk b n p x) (s_F b n p)) from (by
                                                            intro b n q D h
                                                            have hk := q1.1 b n q h.1
                                                            have hP := s_part_3 (D := D) ((s_mi_W (i := 3) (by decide)).mp (show s_mi (s_W b n q) = s_mil.getD 3 0 from (by rw [← hk]; show w1.toInt = 2; omega)))
                                                            obtain ⟨_, q2, D2, hX, h2⟩ := (q23 b n q D h).resolve_right (fun hh => absurd hh.1 (by omega))
                                                            obtain ⟨_, hS, hf⟩ := (q28 b n q2 h2.1).resolve_left (fun hh => absurd hh.1 (by omega))
                                                            exact Or.inr ⟨rfl, q2, 2, D2, by decide, s_semi_b2 (hP.trans hX) hS, hf h2.2.2.1⟩))⟩⟩
      · have r31 : w28.toInt ≠ 0 := fun e => h29 (Int32.toInt_inj.mp (e.trans (by decide : (0:Int) = (0 : Int32).toInt)))
        have l32 : 1 ≤ w28.toInt := t_nel h29 l28 rfl rfl
        refine ev_ic f_X12_riverPart (nx := 101) (v := 1) rfl (by decide) rfl ?_
        refine ev_jmp f_X12_riverPart (nx := 105) rfl rfl rfl ?_
        exact ev_ret f_X12_riverPart rfl rfl rfl ⟨_, _, _, rfl, hI, hX, ⟨_, rfl, (Int.le_trans (by decide : (0:Int) ≤ 1) (by decide : (1:Int) ≤ (1:Int32).toInt)), (by decide : (1:Int32).toInt ≤ (1:Int)), (show ∀ (b : Nat → Int32) (n q : Nat) (D : s_D), t_MS b n q D gi gl → ((1 : Int) = 1 ∧ ∃ q2 D2, s_semi b n (s_part b n q D) = s_ok q2 D2 ∧ t_MS b n q2 D2 gi28 gl28) ∨ ((1 : Int) = 0 ∧ ∃ p x D2, x ≠ 0 ∧ s_semi b n (s_part b n q D) = s_bad b n p x D2 ∧ t_MF gi28 (s_fk b n p x) (s_F b n p)) from (by
                                                            intro b n q D h
                                                            have hk := q1.1 b n q h.1
                                                            have hP := s_part_3 (D := D) ((s_mi_W (i := 3) (by decide)).mp (show s_mi (s_W b n q) = s_mil.getD 3 0 from (by rw [← hk]; show w1.toInt = 2; omega)))
                                                            obtain ⟨_, q2, D2, hX, h2⟩ := (q23 b n q D h).resolve_right (fun hh => absurd hh.1 (by omega))
                                                            obtain ⟨_, hS, hT, hM⟩ := (q28 b n q2 h2.1).resolve_right (fun hh => absurd hh.1 (by omega))
                                                            exact Or.inl ⟨rfl, _, _, s_semi_ok (hP.trans hX) hS, h2.tk hT hM (fun j => (hC28.1 70 j rfl).1) (fun j => (hC28.1 71 j rfl).2.1) (hC28.1 69 20 rfl).1⟩))⟩⟩
  · refine ev_swt f_X12_riverPart (nx := 72) (c := 3) rfl h2 rfl ?_
    refine ev_loc f_X12_riverPart (nx := 73) rfl rfl rfl rfl ?_
    refine ev_loc f_X12_riverPart (nx := 74) rfl rfl rfl rfl ?_
    refine ev_qI f_X12_riverPart (nx := 77) (r := []) rfl rfl rfl rfl rfl rfl rfl (c_n_once3 hI (w1) (Int.le_of_eq h2.symm) (Int.le_of_eq h2)) rfl hX rfl (fun w33 gi33 gl33 gr33 l33 u33 hI hX hC33 q33 => ?_)
    have q33 : ∀ (b : Nat → Int32) (n q : Nat) (D : s_D), t_MS b n q D gi gl → (w33.toInt = 1 ∧ ∃ q2 D2, s_echo b n q D = s_ok q2 D2 ∧ t_MS b n q2 D2 gi33 gl33) ∨ (w33.toInt = 0 ∧ ∃ p x D2, x ≠ 0 ∧ s_echo b n q D = s_bad b n p x D2 ∧ t_MF gi33 (s_fk b n p x) (s_F b n p)) := q33
    refine ev_loc f_X12_riverPart (nx := 78) (lo' := [(1, .int w33), (2, .int w1), (0, .ref 69)]) rfl rfl rfl rfl ?_
    refine ev_jmp f_X12_riverPart (nx := 87) rfl rfl rfl ?_
    refine ev_loc f_X12_riverPart (nx := 88) rfl rfl rfl rfl ?_
    refine ev_if f_X12_riverPart (t1 := 104) (t2 := 91) rfl rfl rfl (fun h34 => ?_) (fun h34 => ?_)
    · have u35 : w33.toInt ≤ 0 := t_equ h34 (by decide : (0:Int32).toInt ≤ (0:Int))
      refine ev_ic f_X12_riverPart (nx := 105) (v := 0) rfl (by decide) rfl ?_
      exact ev_ret f_X12_riverPart rfl rfl rfl ⟨_, _, _, rfl, hI, hX, ⟨_, rfl, (by decide : (0:Int) ≤ (0:Int32).toInt), (Int.le_trans (by decide : (0:Int32).toInt ≤ (0:Int)) (by decide : (0:Int) ≤ 1)), (show ∀ (b : Nat → Int32) (n q : Nat) (D : s_D), t_MS b n q D gi gl → ((0 : Int) = 1 ∧ ∃ q2 D2, s_semi b n (s_part b n q D) = s_ok q2 D2 ∧ t_MS b n q2 D2 gi33 gl33) ∨ ((0 : Int) = 0 ∧ ∃ p x D2, x ≠ 0 ∧ s_semi b n (s_part b n q D) = s_bad b n p x D2 ∧ t_MF gi33 (s_fk b n p x) (s_F b n p)) from (by
                                                            intro b n q D h
                                                            have hk := q1.1 b n q h.1
                                                            have hP := s_part_5 (D := D) ((s_mi_W (i := 5) (by decide)).mp (show s_mi (s_W b n q) = s_mil.getD 5 0 from (by rw [← hk]; show w1.toInt = 3; omega)))
                                                            obtain ⟨_, p, x, D2, hx, hX, hf⟩ := (q33 b n q D h).resolve_left (fun hh => absurd hh.1 (by omega))
                                                            exact Or.inr ⟨rfl, p, x, D2, hx, s_semi_b1 hx (hP.trans hX), hf⟩))⟩⟩
    · have r36 : w33.toInt ≠ 0 := fun e => h34 (Int32.toInt_inj.mp (e.trans (by decide : (0:Int) = (0 : Int32).toInt)))
      have l37 : 1 ≤ w33.toInt := t_nel h34 l33 rfl rfl
      refine ev_loc f_X12_riverPart (nx := 92) rfl rfl rfl rfl ?_
      refine ev_bp f_X12_riverPart (nx := 94) (v := 59) rfl (by decide) rfl ?_
      refine ev_qI f_X12_riverPart (nx := 97) (r := []) rfl rfl rfl rfl rfl rfl rfl (c_n_wantSign hI (59)) rfl hX rfl (fun w38 gi38 gl38 gr38 l38 u38 hI hX hC38 q38 => ?_)
      have q38 : ∀ (b : Nat → Int32) (n q : Nat), t_TM b n q gi33 → (w38.toInt = 1 ∧ s_isS b n q 59 ∧ t_TM b n (s_E b n q) gi38 ∧ t_mf gi33 gi38) ∨ (w38.toInt = 0 ∧ ¬ s_isS b n q 59 ∧ ((gi33 69 18).toInt = 0 → t_MF gi38 (s_fk b n q 2) (s_F b n q))) := q38
      refine ev_if f_X12_riverPart (t1 := 104) (t2 := 100) rfl rfl rfl (fun h39 => ?_) (fun h39 => ?_)
      · have u40 : w38.toInt ≤ 0 := t_equ h39 (by decide : (0:Int32).toInt ≤ (0:Int))
        refine ev_ic f_X12_riverPart (nx := 105) (v := 0) rfl (by decide) rfl ?_
        exact ev_ret f_X12_riverPart rfl rfl rfl ⟨_, _, _, rfl, hI, hX, ⟨_, rfl, (by decide : (0:Int) ≤ (0:Int32).toInt), (Int.le_trans (by decide : (0:Int32).toInt ≤ (0:Int)) (by decide : (0:Int) ≤ 1)), (show ∀ (b : Nat → Int32) (n q : Nat) (D : s_D), t_MS b n q D gi gl → ((0 : Int) = 1 ∧ ∃ q2 D2, s_semi b n (s_part b n q D) = s_ok q2 D2 ∧ t_MS b n q2 D2 gi38 gl38) ∨ ((0 : Int) = 0 ∧ ∃ p x D2, x ≠ 0 ∧ s_semi b n (s_part b n q D) = s_bad b n p x D2 ∧ t_MF gi38 (s_fk b n p x) (s_F b n p)) from (by
                                                            intro b n q D h
                                                            have hk := q1.1 b n q h.1
                                                            have hP := s_part_5 (D := D) ((s_mi_W (i := 5) (by decide)).mp (show s_mi (s_W b n q) = s_mil.getD 5 0 from (by rw [← hk]; show w1.toInt = 3; omega)))
                                                            obtain ⟨_, q2, D2, hX, h2⟩ := (q33 b n q D h).resolve_right (fun hh => absurd hh.1 (by omega))
                                                            obtain ⟨_, hS, hf⟩ := (q38 b n q2 h2.1).resolve_left (fun hh => absurd hh.1 (by omega))
                                                            exact Or.inr ⟨rfl, q2, 2, D2, by decide, s_semi_b2 (hP.trans hX) hS, hf h2.2.2.1⟩))⟩⟩
      · have r41 : w38.toInt ≠ 0 := fun e => h39 (Int32.toInt_inj.mp (e.trans (by decide : (0:Int) = (0 : Int32).toInt)))
        have l42 : 1 ≤ w38.toInt := t_nel h39 l38 rfl rfl
        refine ev_ic f_X12_riverPart (nx := 101) (v := 1) rfl (by decide) rfl ?_
        refine ev_jmp f_X12_riverPart (nx := 105) rfl rfl rfl ?_
        exact ev_ret f_X12_riverPart rfl rfl rfl ⟨_, _, _, rfl, hI, hX, ⟨_, rfl, (Int.le_trans (by decide : (0:Int) ≤ 1) (by decide : (1:Int) ≤ (1:Int32).toInt)), (by decide : (1:Int32).toInt ≤ (1:Int)), (show ∀ (b : Nat → Int32) (n q : Nat) (D : s_D), t_MS b n q D gi gl → ((1 : Int) = 1 ∧ ∃ q2 D2, s_semi b n (s_part b n q D) = s_ok q2 D2 ∧ t_MS b n q2 D2 gi38 gl38) ∨ ((1 : Int) = 0 ∧ ∃ p x D2, x ≠ 0 ∧ s_semi b n (s_part b n q D) = s_bad b n p x D2 ∧ t_MF gi38 (s_fk b n p x) (s_F b n p)) from (by
                                                            intro b n q D h
                                                            have hk := q1.1 b n q h.1
                                                            have hP := s_part_5 (D := D) ((s_mi_W (i := 5) (by decide)).mp (show s_mi (s_W b n q) = s_mil.getD 5 0 from (by rw [← hk]; show w1.toInt = 3; omega)))
                                                            obtain ⟨_, q2, D2, hX, h2⟩ := (q33 b n q D h).resolve_right (fun hh => absurd hh.1 (by omega))
                                                            obtain ⟨_, hS, hT, hM⟩ := (q38 b n q2 h2.1).resolve_right (fun hh => absurd hh.1 (by omega))
                                                            exact Or.inl ⟨rfl, _, _, s_semi_ok (hP.trans hX) hS, h2.tk hT hM (fun j => (hC38.1 70 j rfl).1) (fun j => (hC38.1 71 j rfl).2.1) (hC38.1 69 20 rfl).1⟩))⟩⟩
  · refine ev_swt f_X12_riverPart (nx := 56) (c := 4) rfl h2 rfl ?_
    refine ev_loc f_X12_riverPart (nx := 57) rfl rfl rfl rfl ?_
    refine ev_qI f_X12_riverPart (nx := 60) (r := []) rfl rfl rfl rfl rfl rfl rfl (c_n_aShip hI ) rfl hX rfl (fun w43 gi43 gl43 gr43 l43 u43 hI hX hC43 q43 => ?_)
    have q43 : ∀ (b : Nat → Int32) (n q : Nat) (D : s_D), t_MS b n q D gi gl → (w43.toInt = 1 ∧ ∃ q2 D2, s_ship b n q D = s_ok q2 D2 ∧ t_MS b n q2 D2 gi43 gl43) ∨ (w43.toInt = 0 ∧ ∃ p x D2, x ≠ 0 ∧ s_ship b n q D = s_bad b n p x D2 ∧ t_MF gi43 (s_fk b n p x) (s_F b n p)) := q43
    refine ev_loc f_X12_riverPart (nx := 61) (lo' := [(1, .int w43), (2, .int w1), (0, .ref 69)]) rfl rfl rfl rfl ?_
    refine ev_jmp f_X12_riverPart (nx := 87) rfl rfl rfl ?_
    refine ev_loc f_X12_riverPart (nx := 88) rfl rfl rfl rfl ?_
    refine ev_if f_X12_riverPart (t1 := 104) (t2 := 91) rfl rfl rfl (fun h44 => ?_) (fun h44 => ?_)
    · have u45 : w43.toInt ≤ 0 := t_equ h44 (by decide : (0:Int32).toInt ≤ (0:Int))
      refine ev_ic f_X12_riverPart (nx := 105) (v := 0) rfl (by decide) rfl ?_
      exact ev_ret f_X12_riverPart rfl rfl rfl ⟨_, _, _, rfl, hI, hX, ⟨_, rfl, (by decide : (0:Int) ≤ (0:Int32).toInt), (Int.le_trans (by decide : (0:Int32).toInt ≤ (0:Int)) (by decide : (0:Int) ≤ 1)), (show ∀ (b : Nat → Int32) (n q : Nat) (D : s_D), t_MS b n q D gi gl → ((0 : Int) = 1 ∧ ∃ q2 D2, s_semi b n (s_part b n q D) = s_ok q2 D2 ∧ t_MS b n q2 D2 gi43 gl43) ∨ ((0 : Int) = 0 ∧ ∃ p x D2, x ≠ 0 ∧ s_semi b n (s_part b n q D) = s_bad b n p x D2 ∧ t_MF gi43 (s_fk b n p x) (s_F b n p)) from (by
                                                            intro b n q D h
                                                            have hk := q1.1 b n q h.1
                                                            have hP := s_part_6 (D := D) ((s_mi_W (i := 6) (by decide)).mp (show s_mi (s_W b n q) = s_mil.getD 6 0 from (by rw [← hk]; show w1.toInt = 4; omega)))
                                                            obtain ⟨_, p, x, D2, hx, hX, hf⟩ := (q43 b n q D h).resolve_left (fun hh => absurd hh.1 (by omega))
                                                            exact Or.inr ⟨rfl, p, x, D2, hx, s_semi_b1 hx (hP.trans hX), hf⟩))⟩⟩
    · have r46 : w43.toInt ≠ 0 := fun e => h44 (Int32.toInt_inj.mp (e.trans (by decide : (0:Int) = (0 : Int32).toInt)))
      have l47 : 1 ≤ w43.toInt := t_nel h44 l43 rfl rfl
      refine ev_loc f_X12_riverPart (nx := 92) rfl rfl rfl rfl ?_
      refine ev_bp f_X12_riverPart (nx := 94) (v := 59) rfl (by decide) rfl ?_
      refine ev_qI f_X12_riverPart (nx := 97) (r := []) rfl rfl rfl rfl rfl rfl rfl (c_n_wantSign hI (59)) rfl hX rfl (fun w48 gi48 gl48 gr48 l48 u48 hI hX hC48 q48 => ?_)
      have q48 : ∀ (b : Nat → Int32) (n q : Nat), t_TM b n q gi43 → (w48.toInt = 1 ∧ s_isS b n q 59 ∧ t_TM b n (s_E b n q) gi48 ∧ t_mf gi43 gi48) ∨ (w48.toInt = 0 ∧ ¬ s_isS b n q 59 ∧ ((gi43 69 18).toInt = 0 → t_MF gi48 (s_fk b n q 2) (s_F b n q))) := q48
      refine ev_if f_X12_riverPart (t1 := 104) (t2 := 100) rfl rfl rfl (fun h49 => ?_) (fun h49 => ?_)
      · have u50 : w48.toInt ≤ 0 := t_equ h49 (by decide : (0:Int32).toInt ≤ (0:Int))
        refine ev_ic f_X12_riverPart (nx := 105) (v := 0) rfl (by decide) rfl ?_
        exact ev_ret f_X12_riverPart rfl rfl rfl ⟨_, _, _, rfl, hI, hX, ⟨_, rfl, (by decide : (0:Int) ≤ (0:Int32).toInt), (Int.le_trans (by decide : (0:Int32).toInt ≤ (0:Int)) (by decide : (0:Int) ≤ 1)), (show ∀ (b : Nat → Int32) (n q : Nat) (D : s_D), t_MS b n q D gi gl → ((0 : Int) = 1 ∧ ∃ q2 D2, s_semi b n (s_part b n q D) = s_ok q2 D2 ∧ t_MS b n q2 D2 gi48 gl48) ∨ ((0 : Int) = 0 ∧ ∃ p x D2, x ≠ 0 ∧ s_semi b n (s_part b n q D) = s_bad b n p x D2 ∧ t_MF gi48 (s_fk b n p x) (s_F b n p)) from (by
                                                            intro b n q D h
                                                            have hk := q1.1 b n q h.1
                                                            have hP := s_part_6 (D := D) ((s_mi_W (i := 6) (by decide)).mp (show s_mi (s_W b n q) = s_mil.getD 6 0 from (by rw [← hk]; show w1.toInt = 4; omega)))
                                                            obtain ⟨_, q2, D2, hX, h2⟩ := (q43 b n q D h).resolve_right (fun hh => absurd hh.1 (by omega))
                                                            obtain ⟨_, hS, hf⟩ := (q48 b n q2 h2.1).resolve_left (fun hh => absurd hh.1 (by omega))
                                                            exact Or.inr ⟨rfl, q2, 2, D2, by decide, s_semi_b2 (hP.trans hX) hS, hf h2.2.2.1⟩))⟩⟩
      · have r51 : w48.toInt ≠ 0 := fun e => h49 (Int32.toInt_inj.mp (e.trans (by decide : (0:Int) = (0 : Int32).toInt)))
        have l52 : 1 ≤ w48.toInt := t_nel h49 l48 rfl rfl
        refine ev_ic f_X12_riverPart (nx := 101) (v := 1) rfl (by decide) rfl ?_
        refine ev_jmp f_X12_riverPart (nx := 105) rfl rfl rfl ?_
        exact ev_ret f_X12_riverPart rfl rfl rfl ⟨_, _, _, rfl, hI, hX, ⟨_, rfl, (Int.le_trans (by decide : (0:Int) ≤ 1) (by decide : (1:Int) ≤ (1:Int32).toInt)), (by decide : (1:Int32).toInt ≤ (1:Int)), (show ∀ (b : Nat → Int32) (n q : Nat) (D : s_D), t_MS b n q D gi gl → ((1 : Int) = 1 ∧ ∃ q2 D2, s_semi b n (s_part b n q D) = s_ok q2 D2 ∧ t_MS b n q2 D2 gi48 gl48) ∨ ((1 : Int) = 0 ∧ ∃ p x D2, x ≠ 0 ∧ s_semi b n (s_part b n q D) = s_bad b n p x D2 ∧ t_MF gi48 (s_fk b n p x) (s_F b n p)) from (by
                                                            intro b n q D h
                                                            have hk := q1.1 b n q h.1
                                                            have hP := s_part_6 (D := D) ((s_mi_W (i := 6) (by decide)).mp (show s_mi (s_W b n q) = s_mil.getD 6 0 from (by rw [← hk]; show w1.toInt = 4; omega)))
                                                            obtain ⟨_, q2, D2, hX, h2⟩ := (q43 b n q D h).resolve_right (fun hh => absurd hh.1 (by omega))
                                                            obtain ⟨_, hS, hT, hM⟩ := (q48 b n q2 h2.1).resolve_right (fun hh => absurd hh.1 (by omega))
                                                            exact Or.inl ⟨rfl, _, _, s_semi_ok (hP.trans hX) hS, h2.tk hT hM (fun j => (hC48.1 70 j rfl).1) (fun j => (hC48.1 71 j rfl).2.1) (hC48.1 69 20 rfl).1⟩))⟩⟩
  · refine ev_swt f_X12_riverPart (nx := 64) (c := 5) rfl h2 rfl ?_
    refine ev_loc f_X12_riverPart (nx := 65) rfl rfl rfl rfl ?_
    refine ev_qI f_X12_riverPart (nx := 68) (r := []) rfl rfl rfl rfl rfl rfl rfl (c_n_aCart hI ) rfl hX rfl (fun w53 gi53 gl53 gr53 l53 u53 hI hX hC53 q53 => ?_)
    have q53 : ∀ (b : Nat → Int32) (n q : Nat) (D : s_D), t_MS b n q D gi gl → (w53.toInt = 1 ∧ ∃ q2 D2, s_cart b n q D = s_ok q2 D2 ∧ t_MS b n q2 D2 gi53 gl53) ∨ (w53.toInt = 0 ∧ ∃ p x D2, x ≠ 0 ∧ s_cart b n q D = s_bad b n p x D2 ∧ t_MF gi53 (s_fk b n p x) (s_F b n p)) := q53
    refine ev_loc f_X12_riverPart (nx := 69) (lo' := [(1, .int w53), (2, .int w1), (0, .ref 69)]) rfl rfl rfl rfl ?_
    refine ev_jmp f_X12_riverPart (nx := 87) rfl rfl rfl ?_
    refine ev_loc f_X12_riverPart (nx := 88) rfl rfl rfl rfl ?_
    refine ev_if f_X12_riverPart (t1 := 104) (t2 := 91) rfl rfl rfl (fun h54 => ?_) (fun h54 => ?_)
    · have u55 : w53.toInt ≤ 0 := t_equ h54 (by decide : (0:Int32).toInt ≤ (0:Int))
      refine ev_ic f_X12_riverPart (nx := 105) (v := 0) rfl (by decide) rfl ?_
      exact ev_ret f_X12_riverPart rfl rfl rfl ⟨_, _, _, rfl, hI, hX, ⟨_, rfl, (by decide : (0:Int) ≤ (0:Int32).toInt), (Int.le_trans (by decide : (0:Int32).toInt ≤ (0:Int)) (by decide : (0:Int) ≤ 1)), (show ∀ (b : Nat → Int32) (n q : Nat) (D : s_D), t_MS b n q D gi gl → ((0 : Int) = 1 ∧ ∃ q2 D2, s_semi b n (s_part b n q D) = s_ok q2 D2 ∧ t_MS b n q2 D2 gi53 gl53) ∨ ((0 : Int) = 0 ∧ ∃ p x D2, x ≠ 0 ∧ s_semi b n (s_part b n q D) = s_bad b n p x D2 ∧ t_MF gi53 (s_fk b n p x) (s_F b n p)) from (by
                                                            intro b n q D h
                                                            have hk := q1.1 b n q h.1
                                                            have hP := s_part_12 (D := D) ((s_mi_W (i := 12) (by decide)).mp (show s_mi (s_W b n q) = s_mil.getD 12 0 from (by rw [← hk]; show w1.toInt = 5; omega)))
                                                            obtain ⟨_, p, x, D2, hx, hX, hf⟩ := (q53 b n q D h).resolve_left (fun hh => absurd hh.1 (by omega))
                                                            exact Or.inr ⟨rfl, p, x, D2, hx, s_semi_b1 hx (hP.trans hX), hf⟩))⟩⟩
    · have r56 : w53.toInt ≠ 0 := fun e => h54 (Int32.toInt_inj.mp (e.trans (by decide : (0:Int) = (0 : Int32).toInt)))
      have l57 : 1 ≤ w53.toInt := t_nel h54 l53 rfl rfl
      refine ev_loc f_X12_riverPart (nx := 92) rfl rfl rfl rfl ?_
      refine ev_bp f_X12_riverPart (nx := 94) (v := 59) rfl (by decide) rfl ?_
      refine ev_qI f_X12_riverPart (nx := 97) (r := []) rfl rfl rfl rfl rfl rfl rfl (c_n_wantSign hI (59)) rfl hX rfl (fun w58 gi58 gl58 gr58 l58 u58 hI hX hC58 q58 => ?_)
      have q58 : ∀ (b : Nat → Int32) (n q : Nat), t_TM b n q gi53 → (w58.toInt = 1 ∧ s_isS b n q 59 ∧ t_TM b n (s_E b n q) gi58 ∧ t_mf gi53 gi58) ∨ (w58.toInt = 0 ∧ ¬ s_isS b n q 59 ∧ ((gi53 69 18).toInt = 0 → t_MF gi58 (s_fk b n q 2) (s_F b n q))) := q58
      refine ev_if f_X12_riverPart (t1 := 104) (t2 := 100) rfl rfl rfl (fun h59 => ?_) (fun h59 => ?_)
      · have u60 : w58.toInt ≤ 0 := t_equ h59 (by decide : (0:Int32).toInt ≤ (0:Int))
        refine ev_ic f_X12_riverPart (nx := 105) (v := 0) rfl (by decide) rfl ?_
        exact ev_ret f_X12_riverPart rfl rfl rfl ⟨_, _, _, rfl, hI, hX, ⟨_, rfl, (by decide : (0:Int) ≤ (0:Int32).toInt), (Int.le_trans (by decide : (0:Int32).toInt ≤ (0:Int)) (by decide : (0:Int) ≤ 1)), (show ∀ (b : Nat → Int32) (n q : Nat) (D : s_D), t_MS b n q D gi gl → ((0 : Int) = 1 ∧ ∃ q2 D2, s_semi b n (s_part b n q D) = s_ok q2 D2 ∧ t_MS b n q2 D2 gi58 gl58) ∨ ((0 : Int) = 0 ∧ ∃ p x D2, x ≠ 0 ∧ s_semi b n (s_part b n q D) = s_bad b n p x D2 ∧ t_MF gi58 (s_fk b n p x) (s_F b n p)) from (by
                                                            intro b n q D h
                                                            have hk := q1.1 b n q h.1
                                                            have hP := s_part_12 (D := D) ((s_mi_W (i := 12) (by decide)).mp (show s_mi (s_W b n q) = s_mil.getD 12 0 from (by rw [← hk]; show w1.toInt = 5; omega)))
                                                            obtain ⟨_, q2, D2, hX, h2⟩ := (q53 b n q D h).resolve_right (fun hh => absurd hh.1 (by omega))
                                                            obtain ⟨_, hS, hf⟩ := (q58 b n q2 h2.1).resolve_left (fun hh => absurd hh.1 (by omega))
                                                            exact Or.inr ⟨rfl, q2, 2, D2, by decide, s_semi_b2 (hP.trans hX) hS, hf h2.2.2.1⟩))⟩⟩
      · have r61 : w58.toInt ≠ 0 := fun e => h59 (Int32.toInt_inj.mp (e.trans (by decide : (0:Int) = (0 : Int32).toInt)))
        have l62 : 1 ≤ w58.toInt := t_nel h59 l58 rfl rfl
        refine ev_ic f_X12_riverPart (nx := 101) (v := 1) rfl (by decide) rfl ?_
        refine ev_jmp f_X12_riverPart (nx := 105) rfl rfl rfl ?_
        exact ev_ret f_X12_riverPart rfl rfl rfl ⟨_, _, _, rfl, hI, hX, ⟨_, rfl, (Int.le_trans (by decide : (0:Int) ≤ 1) (by decide : (1:Int) ≤ (1:Int32).toInt)), (by decide : (1:Int32).toInt ≤ (1:Int)), (show ∀ (b : Nat → Int32) (n q : Nat) (D : s_D), t_MS b n q D gi gl → ((1 : Int) = 1 ∧ ∃ q2 D2, s_semi b n (s_part b n q D) = s_ok q2 D2 ∧ t_MS b n q2 D2 gi58 gl58) ∨ ((1 : Int) = 0 ∧ ∃ p x D2, x ≠ 0 ∧ s_semi b n (s_part b n q D) = s_bad b n p x D2 ∧ t_MF gi58 (s_fk b n p x) (s_F b n p)) from (by
                                                            intro b n q D h
                                                            have hk := q1.1 b n q h.1
                                                            have hP := s_part_12 (D := D) ((s_mi_W (i := 12) (by decide)).mp (show s_mi (s_W b n q) = s_mil.getD 12 0 from (by rw [← hk]; show w1.toInt = 5; omega)))
                                                            obtain ⟨_, q2, D2, hX, h2⟩ := (q53 b n q D h).resolve_right (fun hh => absurd hh.1 (by omega))
                                                            obtain ⟨_, hS, hT, hM⟩ := (q58 b n q2 h2.1).resolve_right (fun hh => absurd hh.1 (by omega))
                                                            exact Or.inl ⟨rfl, _, _, s_semi_ok (hP.trans hX) hS, h2.tk hT hM (fun j => (hC58.1 70 j rfl).1) (fun j => (hC58.1 71 j rfl).2.1) (hC58.1 69 20 rfl).1⟩))⟩⟩
  · refine ev_swtd f_X12_riverPart (nx := 81) rfl (by omega) (by decide) rfl ?_
    refine ev_loc f_X12_riverPart (nx := 82) rfl rfl rfl rfl ?_
    refine ev_ic f_X12_riverPart (nx := 83) (v := 2) rfl (by decide) rfl ?_
    refine ev_qI f_X12_riverPart (nx := 86) (r := []) rfl rfl rfl rfl rfl rfl rfl (c_n_fails hI (2) (by decide : (2:Int) ≤ (2:Int32).toInt) (Int.le_trans (by decide : (2:Int32).toInt ≤ (2:Int)) (by decide : (2:Int) ≤ 7))) rfl hX rfl (fun w63 gi63 gl63 gr63 l63 u63 hI hX hC63 q63 => ?_)
    have q63 : (∀ (b : Nat → Int32) (n q : Nat), t_TM b n q gi → (gi 69 18).toInt = 0 → t_MF gi63 (s_fk b n q 2) (s_F b n q)) ∧ w63.toInt = 0 := q63
    exact ev_retZ f_X12_riverPart rfl l63 (Int.le_trans u63 (by decide : (0:Int) ≤ 1)) ⟨_, _, _, rfl, hI, hX, ⟨_, rfl, l63, (Int.le_trans u63 (by decide : (0:Int) ≤ 1)), (show ∀ (b : Nat → Int32) (n q : Nat) (D : s_D), t_MS b n q D gi gl → (w63.toInt = 1 ∧ ∃ q2 D2, s_semi b n (s_part b n q D) = s_ok q2 D2 ∧ t_MS b n q2 D2 gi63 gl63) ∨ (w63.toInt = 0 ∧ ∃ p x D2, x ≠ 0 ∧ s_semi b n (s_part b n q D) = s_bad b n p x D2 ∧ t_MF gi63 (s_fk b n p x) (s_F b n p)) from (by
                                                            intro b n q D h
                                                            have hk := q1.1 b n q h.1
                                                            have hP := s_part_x (D := D) (fun hw => absurd (hk.trans ((s_mi_W (i := 0) (by decide)).mpr hw)) (show ¬ w1.toInt = 0 by omega)) (fun hw => absurd (hk.trans ((s_mi_W (i := 2) (by decide)).mpr hw)) (show ¬ w1.toInt = 1 by omega)) (fun hw => absurd (hk.trans ((s_mi_W (i := 3) (by decide)).mpr hw)) (show ¬ w1.toInt = 2 by omega)) (fun hw => absurd (hk.trans ((s_mi_W (i := 5) (by decide)).mpr hw)) (show ¬ w1.toInt = 3 by omega)) (fun hw => absurd (hk.trans ((s_mi_W (i := 6) (by decide)).mpr hw)) (show ¬ w1.toInt = 4 by omega)) (fun hw => absurd (hk.trans ((s_mi_W (i := 12) (by decide)).mpr hw)) (show ¬ w1.toInt = 5 by omega))
                                                            exact Or.inr ⟨q63.2, q, 2, D, by decide, s_semi_b1 (by decide) hP, q63.1 b n q h.1 h.2.2.1⟩))⟩⟩
noncomputable def Q_n_riverPartB (gi : Nat → Nat → Int32) (gl : Nat → Nat → Int64) (gr : Nat → Nat → Value) : Int32 → (Nat → Nat → Int32) → (Nat → Nat → Int64) → (Nat → Nat → Value) → Prop := fun (v : Int32) (gi2 : Nat → Nat → Int32) (gl2 : Nat → Nat → Int64) (gr2 : Nat → Nat → Value) => ((gi 69 14).toInt ≤ (gi2 69 14).toInt ∧ (v.toInt = 1 → (gi2 69 12).toInt ≠ 0 → (gi 69 14).toInt < (gi2 69 14).toInt) ∧ (1 ≤ (gi 70 1404).toInt → 1 ≤ (gi2 70 1404).toInt)) ∧ (∀ (b : Nat → Int32) (n q : Nat) (D : s_D), t_MS b n q D gi gl → (v.toInt = 1 ∧ ∃ q2 D2, s_semi b n (s_part b n q D) = s_ok q2 D2 ∧ t_MS b n q2 D2 gi2 gl2) ∨ (v.toInt = 0 ∧ ∃ p x D2, x ≠ 0 ∧ s_semi b n (s_part b n q D) = s_bad b n p x D2 ∧ t_MF gi2 (s_fk b n p x) (s_F b n p)))
theorem c_n_riverPartB {X : x_Ext} {d : Nat} {sh : List (Nat ⊕ (Nat × Nat))} {gi : Nat → Nat → Int32} {gl : Nat → Nat → Int64} {gr : Nat → Nat → Value} (hI : t_I sh gi gr) : x_Me X (d + 9) n_X12_riverPart [.ref 69] (sh, gi, gl, gr) (t_PI wl_m_riverPart sh gi gl gr 0 1 (Q_n_riverPartB gi gl gr)) := by
  refine ((x_Me.up (c_m_riverPart (X := X) (d := d) (gl := gl) hI) (by omega)).and (x_Me.up (c_n_riverPart (X := X) (d := d) (gl := gl) hI) (by omega))).mono ?_
  rintro v G' ⟨⟨g1, l1, r1, rfl, k1, k2, x, rfl, k3, k4, k5⟩, g2, l2, r2, e, _, _, x2, e2, _, _, q⟩
  cases e; cases e2
  exact ⟨g1, l1, r1, rfl, k1, k2, x, rfl, k3, k4, k5, q⟩
noncomputable def wl_n_begins : List (Nat × Nat) := [(69, 10), (69, 11), (69, 12), (69, 13), (69, 14), (69, 15), (69, 17), (69, 18), (69, 19), (76, 9999)]
noncomputable def Q_n_begins (gi : Nat → Nat → Int32) (gl : Nat → Nat → Int64) (gr : Nat → Nat → Value) (ar1 : Int32) (ar2 : Int32) : Int32 → (Nat → Nat → Int32) → (Nat → Nat → Int64) → (Nat → Nat → Value) → Prop := fun (v : Int32) (gi2 : Nat → Nat → Int32) (gl2 : Nat → Nat → Int64) (gr2 : Nat → Nat → Value) => (∀ (b : Nat → Int32) (n : Nat), (n : Int) = ar1.toInt → (∀ j : Nat, j < n → gi 75 j = b j) → t_by b n → v.toInt = 1 → t_TM b n 0 gi2 ∧ t_MF gi2 0 (-1)) ∧ (v.toInt = 1 → (0 ≤ ar1.toInt ∧ ar1.toInt ≤ (gi 69 10).toInt ∧ ar1.toInt ≤ ar2.toInt)) ∧ (v.toInt = 0 → ¬ (0 ≤ ar1.toInt ∧ ar1.toInt ≤ (gi 69 10).toInt ∧ ar1.toInt ≤ ar2.toInt))
theorem c_n_begins {X : x_Ext} {d : Nat} {sh : List (Nat ⊕ (Nat × Nat))} {gi : Nat → Nat → Int32} {gl : Nat → Nat → Int64} {gr : Nat → Nat → Value} (hI : t_I sh gi gr) (ar1 : Int32) (ar2 : Int32) : x_Me X (d + 3) n_X12_begins [.ref 69, .int ar1, .int ar2] (sh, gi, gl, gr) (t_PI wl_n_begins sh gi gl gr 0 1 (Q_n_begins gi gl gr ar1 ar2)) := by
  have hX : t_X wl_n_begins sh gi gl gr gi gl gr := t_X.rf
  refine me_i f_X12_begins (hI.wf.s rfl) rfl rfl rfl ?_
  obtain ⟨l1, u1⟩ := hI.b (hI.wf.s (k := 69) rfl) (t_bdK rfl : t_bd 11 10 = some (0, 900))
  refine ev_loc f_X12_begins (nx := 1) rfl rfl rfl rfl ?_
  refine ev_if f_X12_begins (t1 := 17) (t2 := 4) rfl rfl rfl (fun h2 => ?_) (fun h2 => ?_)
  · have u3 : ar1.toInt ≤ (-1) := t_ltu h2 (by decide : (0:Int32).toInt ≤ (0:Int)) rfl
    refine ev_ic f_X12_begins (nx := 18) (v := 0) rfl (by decide) rfl ?_
    exact ev_ret f_X12_begins rfl rfl rfl ⟨_, _, _, rfl, hI, hX, ⟨_, rfl, (by decide : (0:Int) ≤ (0:Int32).toInt), (Int.le_trans (by decide : (0:Int32).toInt ≤ (0:Int)) (by decide : (0:Int) ≤ 1)), (show (∀ (b : Nat → Int32) (n : Nat), (n : Int) = ar1.toInt → (∀ j : Nat, j < n → gi 75 j = b j) → t_by b n → (0 : Int) = 1 → t_TM b n 0 gi ∧ t_MF gi 0 (-1)) ∧ ((0 : Int) = 1 → (0 ≤ ar1.toInt ∧ ar1.toInt ≤ (gi 69 10).toInt ∧ ar1.toInt ≤ ar2.toInt)) ∧ ((0 : Int) = 0 → ¬ (0 ≤ ar1.toInt ∧ ar1.toInt ≤ (gi 69 10).toInt ∧ ar1.toInt ≤ ar2.toInt)) from ⟨fun b n hn hb hy hh => absurd hh (by decide), fun hh => absurd hh (by decide), fun _ => by omega⟩)⟩⟩
  · have l4 : 0 ≤ ar1.toInt := t_lel (t_nlt h2) (by decide : (0:Int) ≤ (0:Int32).toInt)
    refine ev_loc f_X12_begins (nx := 5) rfl rfl rfl rfl ?_
    refine ev_loc f_X12_begins (nx := 6) rfl rfl rfl rfl ?_
    refine ev_gvI f_X12_begins (nx := 9) (w := (gi 69 10)) rfl (hI.wf.s rfl) rfl rfl rfl rfl ?_
    refine ev_if f_X12_begins (t1 := 17) (t2 := 12) rfl rfl rfl (fun h5 => ?_) (fun h5 => ?_)
    · have r6 : (gi 69 10).toInt < ar1.toInt := Int32.lt_iff_toInt_lt.mp h5
      have l7 : 1 ≤ ar1.toInt := t_ltl h5 l1 rfl
      refine ev_ic f_X12_begins (nx := 18) (v := 0) rfl (by decide) rfl ?_
      exact ev_ret f_X12_begins rfl rfl rfl ⟨_, _, _, rfl, hI, hX, ⟨_, rfl, (by decide : (0:Int) ≤ (0:Int32).toInt), (Int.le_trans (by decide : (0:Int32).toInt ≤ (0:Int)) (by decide : (0:Int) ≤ 1)), (show (∀ (b : Nat → Int32) (n : Nat), (n : Int) = ar1.toInt → (∀ j : Nat, j < n → gi 75 j = b j) → t_by b n → (0 : Int) = 1 → t_TM b n 0 gi ∧ t_MF gi 0 (-1)) ∧ ((0 : Int) = 1 → (0 ≤ ar1.toInt ∧ ar1.toInt ≤ (gi 69 10).toInt ∧ ar1.toInt ≤ ar2.toInt)) ∧ ((0 : Int) = 0 → ¬ (0 ≤ ar1.toInt ∧ ar1.toInt ≤ (gi 69 10).toInt ∧ ar1.toInt ≤ ar2.toInt)) from ⟨fun b n hn hb hy hh => absurd hh (by decide), fun hh => absurd hh (by decide), fun _ => by omega⟩)⟩⟩
    · have r8 : ar1.toInt ≤ (gi 69 10).toInt := Int32.le_iff_toInt_le.mp (t_nlt h5)
      have u9 : ar1.toInt ≤ 900 := t_leu (t_nlt h5) u1
      refine ev_loc f_X12_begins (nx := 13) rfl rfl rfl rfl ?_
      refine ev_loc f_X12_begins (nx := 14) rfl rfl rfl rfl ?_
      refine ev_if f_X12_begins (t1 := 19) (t2 := 17) rfl rfl rfl (fun h10 => ?_) (fun h10 => ?_)
      · have r11 : ar1.toInt ≤ ar2.toInt := Int32.le_iff_toInt_le.mp h10
        have l12 : 0 ≤ ar2.toInt := t_lel h10 l4
        refine ev_loc f_X12_begins (nx := 20) rfl rfl rfl rfl ?_
        refine ev_loc f_X12_begins (nx := 21) rfl rfl rfl rfl ?_
        refine ev_putIT f_X12_begins (nx := 24) rfl (hI.wf.s rfl) rfl rfl rfl (hI.putB (hI.wf.s rfl) rfl rfl l4 (by decide) u9 (by decide)) (hX.upI rfl) (fun g13 e13 hI hX => ?_)
        refine ev_ic f_X12_begins (nx := 25) (v := 0) rfl (by decide) rfl ?_
        refine ev_loc f_X12_begins (nx := 26) (lo' := [(3, .int 0), (0, .ref 69), (1, .int ar1), (2, .int ar2)]) rfl rfl rfl rfl ?_
        have L14 : ∀ (m14 : Nat) (gi14 : Nat → Nat → Int32) (gl14 : Nat → Nat → Int64) (gr14 : Nat → Nat → Value) (y14_3 : Int32), t_I sh gi14 gr14 → t_X wl_n_begins sh gi gl gr gi14 gl14 gr14 → 0 ≤ y14_3.toInt → y14_3.toInt ≤ 900 → gi14 69 10 = (gi 69 10) → gi14 69 11 = ar1 → (∀ (b : Nat → Int32) (n : Nat), (n : Int) = ar1.toInt → (∀ j : Nat, j < n → gi 75 j = b j) → t_by b n → ∀ j : Nat, (j : Int) < y14_3.toInt → gi14 76 j = b j) → (900 - y14_3.toInt).toNat = m14 → x_Ev X (d + 3) n_X12_begins 26 [(3, .int y14_3), (0, .ref 69), (1, .int ar1), (2, .int ar2)] [] (sh, gi14, gl14, gr14) (t_PI wl_n_begins sh gi gl gr 0 1 (Q_n_begins gi gl gr ar1 ar2)) := by
          intro m14
          induction m14 using Nat.strongRecOn with
          | _ m14 ih14 =>
          intro gi14 gl14 gr14 y14_3 hI hX l14_3 u14_3 c14_0 c14_1 j14_0 hm14
          refine ev_loc f_X12_begins (nx := 27) rfl rfl rfl rfl ?_
          refine ev_loc f_X12_begins (nx := 28) rfl rfl rfl rfl ?_
          refine ev_if f_X12_begins (t1 := 49) (t2 := 31) rfl rfl rfl (fun h15 => ?_) (fun h15 => ?_)
          · have r16 : ar1.toInt ≤ y14_3.toInt := Int32.le_iff_toInt_le.mp h15
            refine ev_loc f_X12_begins (nx := 50) rfl rfl rfl rfl ?_
            refine ev_ic f_X12_begins (nx := 51) (v := 0) rfl (by decide) rfl ?_
            refine ev_putIT f_X12_begins (nx := 54) rfl (hI.wf.s rfl) rfl rfl rfl (hI.putB (hI.wf.s rfl) rfl rfl (by decide : (0:Int) ≤ (0:Int32).toInt) (by decide) (by decide : (0:Int32).toInt ≤ (0:Int)) (by decide)) (hX.upI rfl) (fun g17 e17 hI hX => ?_)
            refine ev_loc f_X12_begins (nx := 55) rfl rfl rfl rfl ?_
            refine ev_ic f_X12_begins (nx := 56) (v := 0) rfl (by decide) rfl ?_
            refine ev_putIT f_X12_begins (nx := 59) rfl (hI.wf.s rfl) rfl rfl rfl (hI.put0 (hI.wf.s rfl) rfl rfl) (hX.upI rfl) (fun g18 e18 hI hX => ?_)
            refine ev_loc f_X12_begins (nx := 60) rfl rfl rfl rfl ?_
            refine ev_ic f_X12_begins (nx := 61) (v := -1) rfl (by decide) rfl ?_
            refine ev_putIT f_X12_begins (nx := 64) rfl (hI.wf.s rfl) rfl rfl rfl (hI.put0 (hI.wf.s rfl) rfl rfl) (hX.upI rfl) (fun g19 e19 hI hX => ?_)
            refine ev_loc f_X12_begins (nx := 65) rfl rfl rfl rfl ?_
            refine ev_ic f_X12_begins (nx := 66) (v := 0) rfl (by decide) rfl ?_
            refine ev_putIT f_X12_begins (nx := 69) rfl (hI.wf.s rfl) rfl rfl rfl (hI.putB (hI.wf.s rfl) rfl rfl (by decide : (0:Int) ≤ (0:Int32).toInt) (by decide) (by decide : (0:Int32).toInt ≤ (0:Int)) (by decide)) (hX.upI rfl) (fun g20 e20 hI hX => ?_)
            refine ev_loc f_X12_begins (nx := 70) rfl rfl rfl rfl ?_
            refine ev_ic f_X12_begins (nx := 71) (v := 0) rfl (by decide) rfl ?_
            refine ev_putIT f_X12_begins (nx := 74) rfl (hI.wf.s rfl) rfl rfl rfl (hI.put0 (hI.wf.s rfl) rfl rfl) (hX.upI rfl) (fun g21 e21 hI hX => ?_)
            refine ev_loc f_X12_begins (nx := 75) rfl rfl rfl rfl ?_
            refine ev_qN f_X12_begins (nx := 78) (r := []) rfl rfl rfl rfl rfl rfl rfl (c_n_ahead hI ) rfl hX rfl (fun gi22 gl22 gr22 hI hX hC22 q22 => ?_)
            have q22 : ∀ (b : Nat → Int32) (n q : Nat), t_Sm b n q g21 → t_TM b n q gi22 := q22
            refine ev_ic f_X12_begins (nx := 79) (v := 1) rfl (by decide) rfl ?_
            exact ev_ret f_X12_begins rfl rfl rfl ⟨_, _, _, rfl, hI, hX, ⟨_, rfl, (Int.le_trans (by decide : (0:Int) ≤ 1) (by decide : (1:Int) ≤ (1:Int32).toInt)), (by decide : (1:Int32).toInt ≤ (1:Int)), (show (∀ (b : Nat → Int32) (n : Nat), (n : Int) = ar1.toInt → (∀ j : Nat, j < n → gi 75 j = b j) → t_by b n → (1 : Int) = 1 → t_TM b n 0 gi22 ∧ t_MF gi22 0 (-1)) ∧ ((1 : Int) = 1 → (0 ≤ ar1.toInt ∧ ar1.toInt ≤ (gi 69 10).toInt ∧ ar1.toInt ≤ ar2.toInt)) ∧ ((1 : Int) = 0 → ¬ (0 ≤ ar1.toInt ∧ ar1.toInt ≤ (gi 69 10).toInt ∧ ar1.toInt ≤ ar2.toInt)) from ⟨fun b n hn hb hy _ => (by
                                                            have h11 : (g21 69 11).toInt = (n : Int) := by rw [← (hC22.1 69 11 rfl).1, show gi22 69 11 = ar1 from ((hC22.1 69 11 rfl).1.trans ((by rw [e21]; exact x_up2_off (Or.inr (by decide)) : g21 69 11 = g20 69 11).trans ((by rw [e20]; exact x_up2_off (Or.inr (by decide)) : g20 69 11 = g19 69 11).trans ((by rw [e19]; exact x_up2_off (Or.inr (by decide)) : g19 69 11 = g18 69 11).trans ((by rw [e18]; exact x_up2_off (Or.inr (by decide)) : g18 69 11 = g17 69 11).trans ((by rw [e17]; exact x_up2_off (Or.inr (by decide)) : g17 69 11 = gi14 69 11).trans c14_1)))))), hn]
                                                            have h14 : (g21 69 14).toInt = ((0 : Nat) : Int) := by rw [e21, x_up2_off (Or.inr (by decide)), e20, x_up2_at]; rfl
                                                            have hS : t_Sm b n 0 g21 := ⟨⟨⟨fun k hk => ?_, hy⟩, h11⟩, h14, Nat.zero_le _⟩
                                                            exact ⟨q22 b n 0 hS, by rw [show gi22 69 18 = 0 from ((hC22.1 69 18 rfl).1.trans ((by rw [e21]; exact x_up2_off (Or.inr (by decide)) : g21 69 18 = g20 69 18).trans ((by rw [e20]; exact x_up2_off (Or.inr (by decide)) : g20 69 18 = g19 69 18).trans ((by rw [e19]; exact x_up2_off (Or.inr (by decide)) : g19 69 18 = g18 69 18).trans (by rw [e18]; exact x_up2_at _ _ _ _ : g18 69 18 = 0)))))]; rfl, by rw [show gi22 69 17 = -1 from ((hC22.1 69 17 rfl).1.trans ((by rw [e21]; exact x_up2_off (Or.inr (by decide)) : g21 69 17 = g20 69 17).trans ((by rw [e20]; exact x_up2_off (Or.inr (by decide)) : g20 69 17 = g19 69 17).trans (by rw [e19]; exact x_up2_at _ _ _ _ : g19 69 17 = (-1)))))]; rfl⟩
                                                            rw [e21, x_up2_ne (by decide), e20, x_up2_ne (by decide), e19, x_up2_ne (by decide), e18, x_up2_ne (by decide), e17, x_up2_ne (by decide)]; exact j14_0 b n hn hb hy k (by omega)), fun _ => by omega, fun hh => absurd hh (by decide)⟩)⟩⟩
          · have r23 : y14_3.toInt < ar1.toInt := Int32.lt_iff_toInt_lt.mp (t_nle h15)
            have u24 : y14_3.toInt ≤ 899 := t_ltu (t_nle h15) u9 rfl
            have l25 : 1 ≤ ar1.toInt := t_ltl (t_nle h15) l14_3 rfl
            refine ev_loc f_X12_begins (nx := 32) rfl rfl rfl rfl ?_
            refine ev_getR f_X12_begins (nx := 35) rfl (hI.wf.s rfl) rfl rfl (hI.wf.r rfl) rfl rfl ?_
            refine ev_loc f_X12_begins (nx := 36) rfl rfl rfl rfl ?_
            refine ev_loc f_X12_begins (nx := 37) rfl rfl rfl rfl ?_
            refine ev_getR f_X12_begins (nx := 40) rfl (hI.wf.s rfl) rfl rfl (hI.wf.r rfl) rfl rfl ?_
            refine ev_loc f_X12_begins (nx := 41) rfl rfl rfl rfl ?_
            refine ev_baldT f_X12_begins (nx := 42) rfl (hI.wf.s rfl) rfl l14_3 (by decide) u24 (by decide) rfl (fun w26 e26 => ?_)
            refine ev_bastE f_X12_begins (nx := 43) rfl (hI.wf.s rfl) l14_3 (by decide) u24 (by decide) rfl (fun x => (hI.astG (hI.wf.s rfl) (fun lo hi e => absurd e (t_nob (by decide +kernel) _)) (fun k hk e => by have := hk.2.1; omega))) (fun x => hX.upI (t_inA_ok rfl)) (fun g27 x27 f27 e27 hI hX => ?_)
            refine ev_incR f_X12_begins (nx := 46) (c := 1) (l := 1) (u := 900) rfl rfl (by decide) (by decide) l14_3 u24 rfl rfl (by decide) (by decide) rfl (fun z28 e28 l28 u28 => ?_)
            refine ev_jmp f_X12_begins (nx := 26) rfl rfl rfl ?_
            refine ev_sub (lo := [(3, .int z28), (0, .ref 69), (1, .int ar1), (2, .int ar2)]) rfl (t_sc rfl (t_sc rfl (t_sc rfl (t_sc rfl t_sn)))) ?_
            exact ih14 _ (by omega) g27 gl14 gr14 (z28) hI hX  (Int.le_trans (by decide : (0:Int) ≤ 1) l28) u28 ((by rw [e27]; exact x_up2_off (Or.inl (by decide)) : g27 69 10 = gi14 69 10).trans c14_0) ((by rw [e27]; exact x_up2_off (Or.inl (by decide)) : g27 69 11 = gi14 69 11).trans c14_1) (fun b n hn hb hy j hj => (by
                                                            have h1 := t_clamp (i := y14_3) (by omega)
                                                            by_cases hj2 : j = y14_3.toNatClampNeg
                                                            · have hx := (hX.1 75 j rfl).1
                                                              rw [e27, x_up2_ne (by decide)] at hx
                                                              have hw : w26 = b j := by rw [e26, ← hj2, hx]; exact hb j (by omega)
                                                              rw [e27, hj2, x_up2_at, f27, hw, ← hj2]
                                                              exact s_i8 (hy j (by omega)).1 (hy j (by omega)).2
                                                            · rw [e27, x_up2_off (Or.inr hj2)]; exact j14_0 b n hn hb hy j (by omega))) rfl
        refine ev_sub (lo := [(3, .int 0), (0, .ref 69), (1, .int ar1), (2, .int ar2)]) rfl (t_sc rfl (t_sc rfl (t_sc rfl (t_sc rfl t_sn)))) ?_
        exact L14 _ g13 gl gr (0) hI hX  (by decide : (0:Int) ≤ (0:Int32).toInt) (Int.le_trans (by decide : (0:Int32).toInt ≤ (0:Int)) (by decide : (0:Int) ≤ 900)) ((by rw [e13]; exact x_up2_off (Or.inr (by decide)) : g13 69 10 = gi 69 10).trans rfl) (by rw [e13]; exact x_up2_at _ _ _ _ : g13 69 11 = ar1) (fun b n hn hb hy j hj => absurd hj (by have : (0 : Int32).toInt = 0 := rfl; omega)) rfl
      · have r29 : ar2.toInt < ar1.toInt := Int32.lt_iff_toInt_lt.mp (t_nle h10)
        have u30 : ar2.toInt ≤ 899 := t_ltu (t_nle h10) u9 rfl
        refine ev_ic f_X12_begins (nx := 18) (v := 0) rfl (by decide) rfl ?_
        exact ev_ret f_X12_begins rfl rfl rfl ⟨_, _, _, rfl, hI, hX, ⟨_, rfl, (by decide : (0:Int) ≤ (0:Int32).toInt), (Int.le_trans (by decide : (0:Int32).toInt ≤ (0:Int)) (by decide : (0:Int) ≤ 1)), (show (∀ (b : Nat → Int32) (n : Nat), (n : Int) = ar1.toInt → (∀ j : Nat, j < n → gi 75 j = b j) → t_by b n → (0 : Int) = 1 → t_TM b n 0 gi ∧ t_MF gi 0 (-1)) ∧ ((0 : Int) = 1 → (0 ≤ ar1.toInt ∧ ar1.toInt ≤ (gi 69 10).toInt ∧ ar1.toInt ≤ ar2.toInt)) ∧ ((0 : Int) = 0 → ¬ (0 ≤ ar1.toInt ∧ ar1.toInt ≤ (gi 69 10).toInt ∧ ar1.toInt ≤ ar2.toInt)) from ⟨fun b n hn hb hy hh => absurd hh (by decide), fun hh => absurd hh (by decide), fun _ => by omega⟩)⟩⟩
