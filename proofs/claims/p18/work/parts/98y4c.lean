/-! ===== printed by riv.py: the RIVER of the class ===== -/
noncomputable def wl_s_readShip : List (Nat × Nat) := [(6, 0), (7, 9999), (8, 9999), (9, 9999), (10, 9999), (11, 9999), (12, 9999), (13, 0), (14, 9999), (15, 9999), (16, 9999), (17, 9999), (18, 9999), (29, 0), (30, 9999), (31, 9999), (32, 9999), (33, 9999), (34, 9999), (35, 0), (36, 9999), (37, 9999), (38, 9999), (39, 9999), (40, 9999), (43, 9999), (44, 9999), (46, 0), (47, 9999), (48, 9999), (49, 9999), (50, 9999), (51, 9999), (52, 0), (53, 9999), (54, 9999), (55, 9999), (56, 9999), (57, 9999), (58, 9999), (59, 9999), (113, 0), (115, 4), (118, 2), (118, 3), (118, 4), (118, 5), (118, 6), (118, 7), (118, 8), (118, 9), (118, 10), (118, 11), (130, 9999), (131, 9999), (133, 9999)]
noncomputable def Q_s_readShip (gi : Nat → Nat → Int32) (gl : Nat → Nat → Int64) (gr : Nat → Nat → Value) (ar0 : Nat) : Int32 → (Nat → Nat → Int32) → (Nat → Nat → Int64) → (Nat → Nat → Value) → Prop := fun (v : Int32) (gi2 : Nat → Nat → Int32) (gl2 : Nat → Nat → Int64) (gr2 : Nat → Nat → Value) => (∀ (b : Nat → Int32) (n q : Nat) (D : s_D), t_CN b n q D gi gl gr ar0 → (v.toInt = 1 ∧ ∃ q2 D2, s_ship b n q D = s_ok q2 D2 ∧ t_CN b n q2 D2 gi2 gl2 gr2 ar0) ∨ (v.toInt = 0 ∧ ∃ p x D2, x ≠ 0 ∧ s_ship b n q D = s_bad b n p x D2 ∧ t_FL gi2 (ar0 + 1) (s_fk b n p x) (s_F b n p))) ∧ t_lq ar0 gi gl gr gi2 gl2 gr2
theorem c_s_readShip {X : x_Ext} {d : Nat} {sh : List (Nat ⊕ (Nat × Nat))} {gi : Nat → Nat → Int32} {gl : Nat → Nat → Int64} {gr : Nat → Nat → Value} (hI : t_I sh gi gr) (ar0 : Nat) (p_a0 : t_RQ sh gr ar0) : x_Me X (d + 5) n_X6_readShip [.ref ar0] (sh, gi, gl, gr) (t_PI wl_s_readShip sh gi gl gr 0 1 (Q_s_readShip gi gl gr ar0)) := by
  have hX : t_X wl_s_readShip sh gi gl gr gi gl gr := t_X.rf
  refine me_i f_X6_readShip p_a0.1 rfl rfl rfl ?_
  refine ev_loc f_X6_readShip (nx := 1) rfl rfl rfl rfl ?_
  have e1 := p_a0.2.2.2.2.2.1
  have p1 := p_a0.2.2.2.2.2.2
  refine ev_getR f_X6_readShip (nx := 4) rfl p_a0.1 rfl rfl e1 rfl rfl ?_
  have e2 := p1.2.2.2.2.2.1.1
  have p2 := p1.2.2.2.2.2.1.2
  refine ev_getR f_X6_readShip (nx := 7) rfl p1.1 rfl rfl e2 rfl rfl ?_
  refine ev_getI f_X6_readShip (nx := 10) rfl p2.1 rfl rfl rfl ?_
  obtain ⟨l3, u3⟩ := hI.b p2.1 (t_bdK rfl : t_bd 3 0 = some (0, 6))
  refine ev_loc f_X6_readShip (nx := 11) (lo' := [(1, .int (gi (ar0 + 2 + 3) 0)), (0, .ref ar0)]) rfl rfl rfl rfl ?_
  refine ev_loc f_X6_readShip (nx := 12) rfl rfl rfl rfl ?_
  refine ev_bp f_X6_readShip (nx := 14) (v := 6) rfl (by decide) rfl ?_
  refine ev_if f_X6_readShip (t1 := 27) (t2 := 17) rfl rfl rfl (fun h4 => ?_) (fun h4 => ?_)
  · have u5 : (gi (ar0 + 2 + 3) 0).toInt ≤ 5 := t_ltu h4 (by decide : (6:Int32).toInt ≤ (6:Int)) rfl
    refine ev_loc f_X6_readShip (nx := 28) rfl rfl rfl rfl ?_
    have e6 := p_a0.2.2.2.2.1.1
    have p6 := p_a0.2.2.2.2.1.2
    refine ev_getR f_X6_readShip (nx := 31) rfl p_a0.1 rfl rfl e6 rfl rfl ?_
    refine ev_qN f_X6_readShip (nx := 34) (r := []) rfl rfl rfl rfl rfl rfl rfl (c_s_step hI ((ar0 + 1)) p6) rfl hX rfl (fun gi7 gl7 gr7 hI hX hC7 q7 => ?_)
    have q7 : (∀ (b : Nat → Int32) (n q : Nat), t_Sp b n q gi (ar0 + 1) → t_TC b n q gi7 gl7 gr7 (ar0 + 1)) ∧ t_nf gi gi7 (ar0 + 1) ∧ t_on (ar0 + 1) gi gl gr gi7 gl7 gr7 := q7
    replace p_a0 := p_a0.ext hC7.2
    replace p1 := p1.ext hC7.2
    replace p2 := p2.ext hC7.2
    replace p6 := p6.ext hC7.2
    refine ev_loc f_X6_readShip (nx := 35) rfl rfl rfl rfl ?_
    refine ev_qI f_X6_readShip (nx := 38) (r := []) rfl rfl rfl rfl rfl rfl rfl (c_s_takeNewName hI (ar0) p_a0) rfl hX rfl (fun w8 gi8 gl8 gr8 l8 u8 hI hX hC8 q8 => ?_)
    have q8 : (∀ (b : Nat → Int32) (n q : Nat) (D : s_D) (m : Int) (P : Int → Prop), t_CS b n q D m P gi7 gl7 gr7 ar0 → m < 18 → (w8.toInt = 1 ∧ s_isN b n q ∧ ¬ P (s_L b n q).toInt ∧ t_CS b n (s_E b n q) D (m + 1) (fun x => P x ∨ x = (s_L b n q).toInt) gi8 gl8 gr8 ar0) ∨ (w8.toInt = 0 ∧ ¬ s_isN b n q ∧ t_FL gi8 (ar0 + 1) (s_fk b n q 2) (s_F b n q)) ∨ (w8.toInt = 0 ∧ s_isN b n q ∧ P (s_L b n q).toInt ∧ t_FL gi8 (ar0 + 1) (s_fk b n q 3) (s_F b n q))) ∧ t_xc [ar0, ar0 + 1, ar0 + 19] gi7 gl7 gr7 gi8 gl8 gr8 := q8
    replace p_a0 := p_a0.ext hC8.2
    replace p1 := p1.ext hC8.2
    replace p2 := p2.ext hC8.2
    replace p6 := p6.ext hC8.2
    refine ev_if f_X6_readShip (t1 := 54) (t2 := 41) rfl rfl rfl (fun h9 => ?_) (fun h9 => ?_)
    · have u10 : w8.toInt ≤ 0 := t_equ h9 (by decide : (0:Int32).toInt ≤ (0:Int))
      refine ev_ic f_X6_readShip (nx := 55) (v := 0) rfl (by decide) rfl ?_
      exact ev_ret f_X6_readShip rfl rfl rfl ⟨_, _, _, rfl, hI, hX, ⟨_, rfl, (by decide : (0:Int) ≤ (0:Int32).toInt), (Int.le_trans (by decide : (0:Int32).toInt ≤ (0:Int)) (by decide : (0:Int) ≤ 1)), (show (∀ (b : Nat → Int32) (n q : Nat) (D : s_D), t_CN b n q D gi gl gr ar0 → ((0 : Int) = 1 ∧ ∃ q2 D2, s_ship b n q D = s_ok q2 D2 ∧ t_CN b n q2 D2 gi8 gl8 gr8 ar0) ∨ ((0 : Int) = 0 ∧ ∃ p x D2, x ≠ 0 ∧ s_ship b n q D = s_bad b n p x D2 ∧ t_FL gi8 (ar0 + 1) (s_fk b n p x) (s_F b n p))) ∧ t_lq ar0 gi gl gr gi8 gl8 gr8 from ⟨(by
                                                            intro b n q D h
                                                            have h102 := p_a0.2.1
                                                            have h : t_CS b n q D (D 0 + D 1 + D 2) (s_used D) gi gl gr ar0 := h
                                                            obtain ⟨⟨hb1, hb2⟩, ⟨hb3, hb4⟩, hb5, hb6⟩ := h.2.1.1
                                                            have hp : (gi (ar0 + 2 + 3) 0).toInt = D 1 := h.2.1.2.2.2.2.1.1
                                                            have h1 := h.on (q7.1 b n _ h.1.S) q7.2.1 q7.2.2
                                                            rcases q8.1 b n _ D _ _ h1 (by omega) with hh | hh | hh
                                                            · exact absurd hh.1 (by omega)
                                                            · exact Or.inr ⟨rfl, _, 2, D, by decide, by simp only [s_ship, s_name, s_kw, s_ifF (show ¬ D 1 = 6 by omega), s_ifF hh.2.1], hh.2.2⟩
                                                            · exact Or.inr ⟨rfl, _, 3, D, by decide, by simp only [s_ship, s_name, s_kw, s_ifF (show ¬ D 1 = 6 by omega), s_ifT hh.2.1, s_ifT hh.2.2.1], hh.2.2.2⟩), (t_lq.ex (t_lq.on t_lq.rf q7.2.2 (by omega)) q8.2 (by intro x hx; simp only [List.mem_cons, List.not_mem_nil, or_false] at hx; omega))⟩)⟩⟩
    · have r11 : w8.toInt ≠ 0 := fun e => h9 (Int32.toInt_inj.mp (e.trans (by decide : (0:Int) = (0 : Int32).toInt)))
      have l12 : 1 ≤ w8.toInt := t_nel h9 l8 rfl rfl
      refine ev_loc f_X6_readShip (nx := 42) rfl rfl rfl rfl ?_
      refine ev_getR f_X6_readShip (nx := 45) (v := .ref (ar0 + 1)) rfl p_a0.1 rfl rfl ((hC8.1 ar0 0 (t_ninO hI.wf p_a0.1 (t_outO hI.wf p_a0.1 rfl) rfl)).2.2.trans ((hC7.1 ar0 0 (t_ninO hI.wf p_a0.1 (t_outO hI.wf p_a0.1 rfl) rfl)).2.2.trans e6)) rfl rfl ?_
      refine ev_heap f_X6_readShip (nx := 48) rfl rfl rfl rfl ?_
      refine ev_qI f_X6_readShip (nx := 51) (r := []) rfl rfl rfl rfl rfl rfl rfl (c_s_takeOf hI ((ar0 + 1)) p6) rfl hX rfl (fun w13 gi13 gl13 gr13 l13 u13 hI hX hC13 q13 => ?_)
      have q13 : (∀ (b : Nat → Int32) (n q : Nat), t_TC b n q gi8 gl8 gr8 (ar0 + 1) → (w13.toInt = 1 ∧ s_W b n q = some 7 ∧ t_TC b n (s_E b n q) gi13 gl13 gr13 (ar0 + 1) ∧ t_nf gi8 gi13 (ar0 + 1)) ∨ (w13.toInt = 0 ∧ s_W b n q ≠ some 7 ∧ t_FL gi13 (ar0 + 1) (s_fk b n q 2) (s_F b n q))) ∧ t_on (ar0 + 1) gi8 gl8 gr8 gi13 gl13 gr13 := q13
      replace p_a0 := p_a0.ext hC13.2
      replace p1 := p1.ext hC13.2
      replace p2 := p2.ext hC13.2
      replace p6 := p6.ext hC13.2
      refine ev_if f_X6_readShip (t1 := 54) (t2 := 56) rfl rfl rfl (fun h14 => ?_) (fun h14 => ?_)
      · have u15 : w13.toInt ≤ 0 := t_equ h14 (by decide : (0:Int32).toInt ≤ (0:Int))
        refine ev_ic f_X6_readShip (nx := 55) (v := 0) rfl (by decide) rfl ?_
        exact ev_ret f_X6_readShip rfl rfl rfl ⟨_, _, _, rfl, hI, hX, ⟨_, rfl, (by decide : (0:Int) ≤ (0:Int32).toInt), (Int.le_trans (by decide : (0:Int32).toInt ≤ (0:Int)) (by decide : (0:Int) ≤ 1)), (show (∀ (b : Nat → Int32) (n q : Nat) (D : s_D), t_CN b n q D gi gl gr ar0 → ((0 : Int) = 1 ∧ ∃ q2 D2, s_ship b n q D = s_ok q2 D2 ∧ t_CN b n q2 D2 gi13 gl13 gr13 ar0) ∨ ((0 : Int) = 0 ∧ ∃ p x D2, x ≠ 0 ∧ s_ship b n q D = s_bad b n p x D2 ∧ t_FL gi13 (ar0 + 1) (s_fk b n p x) (s_F b n p))) ∧ t_lq ar0 gi gl gr gi13 gl13 gr13 from ⟨(by
                                                            intro b n q D h
                                                            have h102 := p_a0.2.1
                                                            have h : t_CS b n q D (D 0 + D 1 + D 2) (s_used D) gi gl gr ar0 := h
                                                            obtain ⟨⟨hb1, hb2⟩, ⟨hb3, hb4⟩, hb5, hb6⟩ := h.2.1.1
                                                            have hp : (gi (ar0 + 2 + 3) 0).toInt = D 1 := h.2.1.2.2.2.2.1.1
                                                            have h1 := h.on (q7.1 b n _ h.1.S) q7.2.1 q7.2.2
                                                            obtain ⟨_, hN, hU, h3⟩ := (q8.1 b n _ D _ _ h1 (by omega)).resolve_right (fun hh => by rcases hh with hh | hh <;> exact absurd hh.1 (by omega))
                                                            rcases q13.1 b n _ h3.1 with hh | hh
                                                            · exact absurd hh.1 (by omega)
                                                            · exact Or.inr ⟨rfl, _, 2, D, by decide, by simp only [s_ship, s_name, s_kw, s_ifF (show ¬ D 1 = 6 by omega), s_ifT hN, s_ifF hU, s_ifF hh.2.1], hh.2.2⟩), (t_lq.on (t_lq.ex (t_lq.on t_lq.rf q7.2.2 (by omega)) q8.2 (by intro x hx; simp only [List.mem_cons, List.not_mem_nil, or_false] at hx; omega)) q13.2 (by omega))⟩)⟩⟩
      · have r16 : w13.toInt ≠ 0 := fun e => h14 (Int32.toInt_inj.mp (e.trans (by decide : (0:Int) = (0 : Int32).toInt)))
        have l17 : 1 ≤ w13.toInt := t_nel h14 l13 rfl rfl
        refine ev_loc f_X6_readShip (nx := 57) rfl rfl rfl rfl ?_
        refine ev_getR f_X6_readShip (nx := 60) (v := .ref (ar0 + 1)) rfl p_a0.1 rfl rfl ((hC13.1 ar0 0 (t_ninO hI.wf p_a0.1 (t_outO hI.wf p_a0.1 rfl) rfl)).2.2.trans ((hC8.1 ar0 0 (t_ninO hI.wf p_a0.1 (t_outO hI.wf p_a0.1 rfl) rfl)).2.2.trans ((hC7.1 ar0 0 (t_ninO hI.wf p_a0.1 (t_outO hI.wf p_a0.1 rfl) rfl)).2.2.trans e6))) rfl rfl ?_
        refine ev_qI0 f_X6_readShip (nx := 63) (r := []) rfl rfl rfl rfl rfl rfl rfl (c_s_isName hI ((ar0 + 1)) p6) rfl (fun w18 l18 u18 q18 => ?_)
        have q18 : ∀ (b : Nat → Int32) (n q : Nat), t_TC b n q gi13 gl13 gr13 (ar0 + 1) → (w18.toInt = 1 ↔ s_isN b n q) := q18
        refine ev_if f_X6_readShip (t1 := 66) (t2 := 75) rfl rfl rfl (fun h19 => ?_) (fun h19 => ?_)
        · have u20 : w18.toInt ≤ 0 := t_equ h19 (by decide : (0:Int32).toInt ≤ (0:Int))
          refine ev_loc f_X6_readShip (nx := 67) rfl rfl rfl rfl ?_
          refine ev_getR f_X6_readShip (nx := 70) (v := .ref (ar0 + 1)) rfl p_a0.1 rfl rfl ((hC13.1 ar0 0 (t_ninO hI.wf p_a0.1 (t_outO hI.wf p_a0.1 rfl) rfl)).2.2.trans ((hC8.1 ar0 0 (t_ninO hI.wf p_a0.1 (t_outO hI.wf p_a0.1 rfl) rfl)).2.2.trans ((hC7.1 ar0 0 (t_ninO hI.wf p_a0.1 (t_outO hI.wf p_a0.1 rfl) rfl)).2.2.trans e6))) rfl rfl ?_
          refine ev_ic f_X6_readShip (nx := 71) (v := 2) rfl (by decide) rfl ?_
          refine ev_qI f_X6_readShip (nx := 74) (r := []) rfl rfl rfl rfl rfl rfl rfl (c_s_refuse hI ((ar0 + 1)) p6 (2) (by decide : (2:Int) ≤ (2:Int32).toInt) (Int.le_trans (by decide : (2:Int32).toInt ≤ (2:Int)) (by decide : (2:Int) ≤ 7))) rfl hX rfl (fun w21 gi21 gl21 gr21 l21 u21 hI hX hC21 q21 => ?_)
          have q21 : (∀ (b : Nat → Int32) (n q : Nat), t_TC b n q gi13 gl13 gr13 (ar0 + 1) → t_FL gi21 (ar0 + 1) (s_fk b n q 2) (s_F b n q)) ∧ w21.toInt = 0 ∧ t_on (ar0 + 1) gi13 gl13 gr13 gi21 gl21 gr21 := q21
          replace p_a0 := p_a0.ext hC21.2
          replace p1 := p1.ext hC21.2
          replace p2 := p2.ext hC21.2
          replace p6 := p6.ext hC21.2
          exact ev_retZ f_X6_readShip rfl l21 (Int.le_trans u21 (by decide : (0:Int) ≤ 1)) ⟨_, _, _, rfl, hI, hX, ⟨_, rfl, l21, (Int.le_trans u21 (by decide : (0:Int) ≤ 1)), (show (∀ (b : Nat → Int32) (n q : Nat) (D : s_D), t_CN b n q D gi gl gr ar0 → (w21.toInt = 1 ∧ ∃ q2 D2, s_ship b n q D = s_ok q2 D2 ∧ t_CN b n q2 D2 gi21 gl21 gr21 ar0) ∨ (w21.toInt = 0 ∧ ∃ p x D2, x ≠ 0 ∧ s_ship b n q D = s_bad b n p x D2 ∧ t_FL gi21 (ar0 + 1) (s_fk b n p x) (s_F b n p))) ∧ t_lq ar0 gi gl gr gi21 gl21 gr21 from ⟨(by
                                                            intro b n q D h
                                                            have h102 := p_a0.2.1
                                                            have h : t_CS b n q D (D 0 + D 1 + D 2) (s_used D) gi gl gr ar0 := h
                                                            obtain ⟨⟨hb1, hb2⟩, ⟨hb3, hb4⟩, hb5, hb6⟩ := h.2.1.1
                                                            have hp : (gi (ar0 + 2 + 3) 0).toInt = D 1 := h.2.1.2.2.2.2.1.1
                                                            have h1 := h.on (q7.1 b n _ h.1.S) q7.2.1 q7.2.2
                                                            obtain ⟨_, hN, hU, h3⟩ := (q8.1 b n _ D _ _ h1 (by omega)).resolve_right (fun hh => by rcases hh with hh | hh <;> exact absurd hh.1 (by omega))
                                                            obtain ⟨hv13, hW13, ht13, hf13⟩ := (q13.1 b n _ h3.1).resolve_right (fun hh => absurd hh.1 (by omega))
                                                            have h4 := h3.on ht13 hf13 q13.2
                                                            have hM : ¬ s_isN b n _ := fun hh => absurd ((q18 b n _ h4.1).mpr hh) (by omega)
                                                            exact Or.inr ⟨q21.2.1, _, 2, D, by decide, by simp only [s_ship, s_name, s_kw, s_ifF (show ¬ D 1 = 6 by omega), s_ifT hN, s_ifF hU, s_ifT hW13, s_ifF hM], q21.1 b n _ h4.1⟩), (t_lq.on (t_lq.on (t_lq.ex (t_lq.on t_lq.rf q7.2.2 (by omega)) q8.2 (by intro x hx; simp only [List.mem_cons, List.not_mem_nil, or_false] at hx; omega)) q13.2 (by omega)) q21.2.2 (by omega))⟩)⟩⟩
        · have r22 : w18.toInt ≠ 0 := fun e => h19 (Int32.toInt_inj.mp (e.trans (by decide : (0:Int) = (0 : Int32).toInt)))
          have l23 : 1 ≤ w18.toInt := t_nel h19 l18 rfl rfl
          refine ev_loc f_X6_readShip (nx := 76) rfl rfl rfl rfl ?_
          refine ev_loc f_X6_readShip (nx := 77) rfl rfl rfl rfl ?_
          refine ev_getR f_X6_readShip (nx := 80) (v := .ref (ar0 + 1)) rfl p_a0.1 rfl rfl ((hC13.1 ar0 0 (t_ninO hI.wf p_a0.1 (t_outO hI.wf p_a0.1 rfl) rfl)).2.2.trans ((hC8.1 ar0 0 (t_ninO hI.wf p_a0.1 (t_outO hI.wf p_a0.1 rfl) rfl)).2.2.trans ((hC7.1 ar0 0 (t_ninO hI.wf p_a0.1 (t_outO hI.wf p_a0.1 rfl) rfl)).2.2.trans e6))) rfl rfl ?_
          refine ev_getL f_X6_readShip (nx := 83) rfl p6.1 rfl rfl rfl ?_
          refine ev_qI0 f_X6_readShip (nx := 86) (r := []) rfl rfl rfl rfl rfl rfl rfl (c_s_portNamed hI (ar0) p_a0 ((gl13 (ar0 + 1) 6))) rfl (fun w24 l24 u24 q24 => ?_)
          have q24 : ∀ (b : Nat → Int32) (n q : Nat) (D : s_D) (m : Int) (P : Int → Prop), t_CS b n q D m P gi13 gl13 gr13 ar0 → w24.toInt = s_fst (fun i => D (200 + i)) (gl13 (ar0 + 1) 6).toInt (D 0).toNat 0 := q24
          refine ev_loc f_X6_readShip (nx := 87) (lo' := [(2, .int w24), (1, .int (gi (ar0 + 2 + 3) 0)), (0, .ref ar0)]) rfl rfl rfl rfl ?_
          refine ev_loc f_X6_readShip (nx := 88) rfl rfl rfl rfl ?_
          refine ev_ic f_X6_readShip (nx := 89) (v := -1) rfl (by decide) rfl ?_
          refine ev_if f_X6_readShip (t1 := 92) (t2 := 101) rfl rfl rfl (fun h25 => ?_) (fun h25 => ?_)
          · have u26 : w24.toInt ≤ (-1) := t_equ h25 (by decide : ((-1):Int32).toInt ≤ ((-1):Int))
            refine ev_loc f_X6_readShip (nx := 93) rfl rfl rfl rfl ?_
            refine ev_getR f_X6_readShip (nx := 96) (v := .ref (ar0 + 1)) rfl p_a0.1 rfl rfl ((hC13.1 ar0 0 (t_ninO hI.wf p_a0.1 (t_outO hI.wf p_a0.1 rfl) rfl)).2.2.trans ((hC8.1 ar0 0 (t_ninO hI.wf p_a0.1 (t_outO hI.wf p_a0.1 rfl) rfl)).2.2.trans ((hC7.1 ar0 0 (t_ninO hI.wf p_a0.1 (t_outO hI.wf p_a0.1 rfl) rfl)).2.2.trans e6))) rfl rfl ?_
            refine ev_ic f_X6_readShip (nx := 97) (v := 3) rfl (by decide) rfl ?_
            refine ev_qI f_X6_readShip (nx := 100) (r := []) rfl rfl rfl rfl rfl rfl rfl (c_s_refuse hI ((ar0 + 1)) p6 (3) (Int.le_trans (by decide : (2:Int) ≤ 3) (by decide : (3:Int) ≤ (3:Int32).toInt)) (Int.le_trans (by decide : (3:Int32).toInt ≤ (3:Int)) (by decide : (3:Int) ≤ 7))) rfl hX rfl (fun w27 gi27 gl27 gr27 l27 u27 hI hX hC27 q27 => ?_)
            have q27 : (∀ (b : Nat → Int32) (n q : Nat), t_TC b n q gi13 gl13 gr13 (ar0 + 1) → t_FL gi27 (ar0 + 1) (s_fk b n q 3) (s_F b n q)) ∧ w27.toInt = 0 ∧ t_on (ar0 + 1) gi13 gl13 gr13 gi27 gl27 gr27 := q27
            replace p_a0 := p_a0.ext hC27.2
            replace p1 := p1.ext hC27.2
            replace p2 := p2.ext hC27.2
            replace p6 := p6.ext hC27.2
            exact ev_retZ f_X6_readShip rfl l27 (Int.le_trans u27 (by decide : (0:Int) ≤ 1)) ⟨_, _, _, rfl, hI, hX, ⟨_, rfl, l27, (Int.le_trans u27 (by decide : (0:Int) ≤ 1)), (show (∀ (b : Nat → Int32) (n q : Nat) (D : s_D), t_CN b n q D gi gl gr ar0 → (w27.toInt = 1 ∧ ∃ q2 D2, s_ship b n q D = s_ok q2 D2 ∧ t_CN b n q2 D2 gi27 gl27 gr27 ar0) ∨ (w27.toInt = 0 ∧ ∃ p x D2, x ≠ 0 ∧ s_ship b n q D = s_bad b n p x D2 ∧ t_FL gi27 (ar0 + 1) (s_fk b n p x) (s_F b n p))) ∧ t_lq ar0 gi gl gr gi27 gl27 gr27 from ⟨(by
                                                            intro b n q D h
                                                            have h102 := p_a0.2.1
                                                            have h : t_CS b n q D (D 0 + D 1 + D 2) (s_used D) gi gl gr ar0 := h
                                                            obtain ⟨⟨hb1, hb2⟩, ⟨hb3, hb4⟩, hb5, hb6⟩ := h.2.1.1
                                                            have hp : (gi (ar0 + 2 + 3) 0).toInt = D 1 := h.2.1.2.2.2.2.1.1
                                                            have h1 := h.on (q7.1 b n _ h.1.S) q7.2.1 q7.2.2
                                                            obtain ⟨_, hN, hU, h3⟩ := (q8.1 b n _ D _ _ h1 (by omega)).resolve_right (fun hh => by rcases hh with hh | hh <;> exact absurd hh.1 (by omega))
                                                            obtain ⟨hv13, hW13, ht13, hf13⟩ := (q13.1 b n _ h3.1).resolve_right (fun hh => absurd hh.1 (by omega))
                                                            have h4 := h3.on ht13 hf13 q13.2
                                                            have hM := (q18 b n _ h4.1).mp (by omega)
                                                            have hL : (gl13 (ar0 + 1) 6) = s_L b n (s_E b n (s_E b n (s_E b n q))) := (h4.1.2.2.2.2.2.1 hM.1).2
                                                            have hG : w24.toInt = s_fp D (s_L b n (s_E b n (s_E b n (s_E b n q)))).toInt := by rw [← hL]; exact q24 b n _ D _ _ h4
                                                            exact Or.inr ⟨q27.2.1, _, 3, D, by decide, by simp only [s_ship, s_name, s_kw, s_ifF (show ¬ D 1 = 6 by omega), s_ifT hN, s_ifF hU, s_ifT hW13, s_ifT hM, s_ifT (show s_fp D (s_L b n (s_E b n (s_E b n (s_E b n q)))).toInt = -1 by omega)], q27.1 b n _ h4.1⟩), (t_lq.on (t_lq.on (t_lq.ex (t_lq.on t_lq.rf q7.2.2 (by omega)) q8.2 (by intro x hx; simp only [List.mem_cons, List.not_mem_nil, or_false] at hx; omega)) q13.2 (by omega)) q27.2.2 (by omega))⟩)⟩⟩
          · have r28 : w24.toInt ≠ (-1) := fun e => h25 (Int32.toInt_inj.mp (e.trans (by decide : ((-1):Int) = ((-1) : Int32).toInt)))
            have l29 : 0 ≤ w24.toInt := t_nel h25 l24 rfl rfl
            refine ev_loc f_X6_readShip (nx := 102) rfl rfl rfl rfl ?_
            refine ev_getR f_X6_readShip (nx := 105) (v := .ref (ar0 + 1)) rfl p_a0.1 rfl rfl ((hC13.1 ar0 0 (t_ninO hI.wf p_a0.1 (t_outO hI.wf p_a0.1 rfl) rfl)).2.2.trans ((hC8.1 ar0 0 (t_ninO hI.wf p_a0.1 (t_outO hI.wf p_a0.1 rfl) rfl)).2.2.trans ((hC7.1 ar0 0 (t_ninO hI.wf p_a0.1 (t_outO hI.wf p_a0.1 rfl) rfl)).2.2.trans e6))) rfl rfl ?_
            refine ev_qN f_X6_readShip (nx := 108) (r := []) rfl rfl rfl rfl rfl rfl rfl (c_s_step hI ((ar0 + 1)) p6) rfl hX rfl (fun gi30 gl30 gr30 hI hX hC30 q30 => ?_)
            have q30 : (∀ (b : Nat → Int32) (n q : Nat), t_Sp b n q gi13 (ar0 + 1) → t_TC b n q gi30 gl30 gr30 (ar0 + 1)) ∧ t_nf gi13 gi30 (ar0 + 1) ∧ t_on (ar0 + 1) gi13 gl13 gr13 gi30 gl30 gr30 := q30
            replace p_a0 := p_a0.ext hC30.2
            replace p1 := p1.ext hC30.2
            replace p2 := p2.ext hC30.2
            replace p6 := p6.ext hC30.2
            refine ev_loc f_X6_readShip (nx := 109) rfl rfl rfl rfl ?_
            refine ev_getR f_X6_readShip (nx := 112) (v := .ref (ar0 + 2)) rfl p_a0.1 rfl rfl ((hC30.1 ar0 1 (t_ninO hI.wf p_a0.1 (t_outO hI.wf p_a0.1 rfl) rfl)).2.2.trans ((hC13.1 ar0 1 (t_ninO hI.wf p_a0.1 (t_outO hI.wf p_a0.1 rfl) rfl)).2.2.trans ((hC8.1 ar0 1 (t_ninO hI.wf p_a0.1 (t_outO hI.wf p_a0.1 rfl) rfl)).2.2.trans ((hC7.1 ar0 1 (t_ninO hI.wf p_a0.1 (t_outO hI.wf p_a0.1 rfl) rfl)).2.2.trans e1)))) rfl rfl ?_
            have e31 := p1.2.2.2.2.1.1
            have p31 := p1.2.2.2.2.1.2
            refine ev_getR f_X6_readShip (nx := 115) rfl p1.1 rfl rfl e31 rfl rfl ?_
            refine ev_loc f_X6_readShip (nx := 116) rfl rfl rfl rfl ?_
            refine ev_loc f_X6_readShip (nx := 117) rfl rfl rfl rfl ?_
            refine ev_iastT f_X6_readShip (nx := 118) rfl p31 l3 (by decide) u5 (by decide) rfl (hI.astO p31 (Or.inr (by have := p1.2.1; omega)) (by decide +kernel)) (hX.upI (t_inOA hI.wf p31 (Or.inr (by have := p1.2.1; omega)) rfl)) (fun g32 e32 hI hX => ?_)
            refine ev_loc f_X6_readShip (nx := 119) rfl rfl rfl rfl ?_
            refine ev_loc f_X6_readShip (nx := 120) rfl rfl rfl rfl ?_
            refine ev_getR f_X6_readShip (nx := 123) (v := .ref (ar0 + 2)) rfl p_a0.1 rfl rfl ((hC30.1 ar0 1 (t_ninO hI.wf p_a0.1 (t_outO hI.wf p_a0.1 rfl) rfl)).2.2.trans ((hC13.1 ar0 1 (t_ninO hI.wf p_a0.1 (t_outO hI.wf p_a0.1 rfl) rfl)).2.2.trans ((hC8.1 ar0 1 (t_ninO hI.wf p_a0.1 (t_outO hI.wf p_a0.1 rfl) rfl)).2.2.trans ((hC7.1 ar0 1 (t_ninO hI.wf p_a0.1 (t_outO hI.wf p_a0.1 rfl) rfl)).2.2.trans e1)))) rfl rfl ?_
            refine ev_getR f_X6_readShip (nx := 126) (v := .ref (ar0 + 2 + 3)) rfl p1.1 rfl rfl ((hC30.1 (ar0 + 2) 7 (t_ninO hI.wf p1.1 (t_outO hI.wf p1.1 rfl) rfl)).2.2.trans ((hC13.1 (ar0 + 2) 7 (t_ninO hI.wf p1.1 (t_outO hI.wf p1.1 rfl) rfl)).2.2.trans ((hC8.1 (ar0 + 2) 7 (t_ninO hI.wf p1.1 (t_outO hI.wf p1.1 rfl) rfl)).2.2.trans ((hC7.1 (ar0 + 2) 7 (t_ninO hI.wf p1.1 (t_outO hI.wf p1.1 rfl) rfl)).2.2.trans e2)))) rfl rfl ?_
            refine ev_qI f_X6_readShip (nx := 129) (r := []) rfl rfl rfl rfl rfl rfl rfl (c_s_readComing hI (ar0) p_a0 ((ar0 + 2 + 3)) p2 (by have ff2 : (g32 (ar0 + 2 + 3) 0).toInt = (gi (ar0 + 2 + 3) 0).toInt := congrArg Int32.toInt ((by rw [e32]; exact x_up2_off (Or.inl (t_noobj p31 p2.1)) : g32 (ar0 + 2 + 3) 0 = gi30 (ar0 + 2 + 3) 0).trans ((hC30.1 (ar0 + 2 + 3) 0 (t_ninO hI.wf p2.1 (t_outO hI.wf p2.1 rfl) rfl)).1.trans ((hC13.1 (ar0 + 2 + 3) 0 (t_ninO hI.wf p2.1 (t_outO hI.wf p2.1 rfl) rfl)).1.trans ((hC8.1 (ar0 + 2 + 3) 0 (t_ninO hI.wf p2.1 (t_outO hI.wf p2.1 rfl) rfl)).1.trans ((hC7.1 (ar0 + 2 + 3) 0 (t_ninO hI.wf p2.1 (t_outO hI.wf p2.1 rfl) rfl)).1.trans rfl))))); omega) (by omega)) rfl hX rfl (fun w33 gi33 gl33 gr33 l33 u33 hI hX hC33 q33 => ?_)
            have q33 : (∀ (b : Nat → Int32) (n q : Nat) (D : s_D), t_TC b n q g32 gl30 gr30 (ar0 + 1) → t_FL g32 (ar0 + 1) 0 (-1) → (w33.toInt = 1 ∧ ∃ q2 x y z, (∀ K, s_come b n q D K = K q2 x y z) ∧ t_TC b n q2 gi33 gl33 gr33 (ar0 + 1) ∧ t_FL gi33 (ar0 + 1) 0 (-1) ∧ (gi33 (ar0 + 2 + 3) 0).toInt = (g32 (ar0 + 2 + 3) 0).toInt + 1 ∧ t_ru (g32 ((ar0 + 2 + 3) + 2)) (gi33 ((ar0 + 2 + 3) + 2)) (g32 (ar0 + 2 + 3) 0).toNatClampNeg x ∧ t_ru (g32 ((ar0 + 2 + 3) + 3)) (gi33 ((ar0 + 2 + 3) + 3)) (g32 (ar0 + 2 + 3) 0).toNatClampNeg y ∧ t_ru (g32 ((ar0 + 2 + 3) + 4)) (gi33 ((ar0 + 2 + 3) + 4)) (g32 (ar0 + 2 + 3) 0).toNatClampNeg z ∧ t_ru (g32 ((ar0 + 2 + 3) + 5)) (gi33 ((ar0 + 2 + 3) + 5)) (g32 (ar0 + 2 + 3) 0).toNatClampNeg 0) ∨ (w33.toInt = 0 ∧ ∃ p x, x ≠ 0 ∧ (∀ K, s_come b n q D K = s_bad b n p x D) ∧ t_FL gi33 (ar0 + 1) (s_fk b n p x) (s_F b n p))) ∧ t_xc [ar0 + 1, (ar0 + 2 + 3), (ar0 + 2 + 3) + 1, (ar0 + 2 + 3) + 2, (ar0 + 2 + 3) + 3, (ar0 + 2 + 3) + 4, (ar0 + 2 + 3) + 5] g32 gl30 gr30 gi33 gl33 gr33 := q33
            replace p_a0 := p_a0.ext hC33.2
            replace p1 := p1.ext hC33.2
            replace p2 := p2.ext hC33.2
            replace p6 := p6.ext hC33.2
            refine ev_if f_X6_readShip (t1 := 132) (t2 := 134) rfl rfl rfl (fun h34 => ?_) (fun h34 => ?_)
            · have u35 : w33.toInt ≤ 0 := t_equ h34 (by decide : (0:Int32).toInt ≤ (0:Int))
              refine ev_ic f_X6_readShip (nx := 133) (v := 0) rfl (by decide) rfl ?_
              exact ev_ret f_X6_readShip rfl rfl rfl ⟨_, _, _, rfl, hI, hX, ⟨_, rfl, (by decide : (0:Int) ≤ (0:Int32).toInt), (Int.le_trans (by decide : (0:Int32).toInt ≤ (0:Int)) (by decide : (0:Int) ≤ 1)), (show (∀ (b : Nat → Int32) (n q : Nat) (D : s_D), t_CN b n q D gi gl gr ar0 → ((0 : Int) = 1 ∧ ∃ q2 D2, s_ship b n q D = s_ok q2 D2 ∧ t_CN b n q2 D2 gi33 gl33 gr33 ar0) ∨ ((0 : Int) = 0 ∧ ∃ p x D2, x ≠ 0 ∧ s_ship b n q D = s_bad b n p x D2 ∧ t_FL gi33 (ar0 + 1) (s_fk b n p x) (s_F b n p))) ∧ t_lq ar0 gi gl gr gi33 gl33 gr33 from ⟨(by
                                                            intro b n q D h
                                                            have h102 := p_a0.2.1
                                                            have h : t_CS b n q D (D 0 + D 1 + D 2) (s_used D) gi gl gr ar0 := h
                                                            obtain ⟨⟨hb1, hb2⟩, ⟨hb3, hb4⟩, hb5, hb6⟩ := h.2.1.1
                                                            have hp : (gi (ar0 + 2 + 3) 0).toInt = D 1 := h.2.1.2.2.2.2.1.1
                                                            have h1 := h.on (q7.1 b n _ h.1.S) q7.2.1 q7.2.2
                                                            obtain ⟨_, hN, hU, h3⟩ := (q8.1 b n _ D _ _ h1 (by omega)).resolve_right (fun hh => by rcases hh with hh | hh <;> exact absurd hh.1 (by omega))
                                                            obtain ⟨hv13, hW13, ht13, hf13⟩ := (q13.1 b n _ h3.1).resolve_right (fun hh => absurd hh.1 (by omega))
                                                            have h4 := h3.on ht13 hf13 q13.2
                                                            have hM := (q18 b n _ h4.1).mp (by omega)
                                                            have hL : (gl13 (ar0 + 1) 6) = s_L b n (s_E b n (s_E b n (s_E b n q))) := (h4.1.2.2.2.2.2.1 hM.1).2
                                                            have hG : w24.toInt = s_fp D (s_L b n (s_E b n (s_E b n (s_E b n q)))).toInt := by rw [← hL]; exact q24 b n _ D _ _ h4
                                                            have h5 := h4.on (q30.1 b n _ h4.1.S) q30.2.1 q30.2.2
                                                            have hA : ∀ K, K ≠ ar0 + 2 + 9 → g32 K = gi30 K := fun K hK => by rw [e32, x_up2_ne hK]
                                                            have hT0 := h5.1.eq (g1 := g32) (l1 := gl30) (r1 := gr30) (hA _ (by omega)) (hA _ (by omega)) rfl rfl
                                                            have hF0 : t_FL g32 (ar0 + 1) 0 (-1) := by rw [t_FL, hA _ (by omega)]; exact h5.2.2
                                                            rcases q33.1 b n _ D hT0 hF0 with hh | hh
                                                            · exact absurd hh.1 (by omega)
                                                            · obtain ⟨_, p, x, hx, hK, hf⟩ := hh
                                                              exact Or.inr ⟨rfl, p, x, D, hx, by simp only [s_ship, s_name, s_kw, s_ifF (show ¬ D 1 = 6 by omega), s_ifT hN, s_ifF hU, s_ifT hW13, s_ifT hM, s_ifF (show ¬ s_fp D (s_L b n (s_E b n (s_E b n (s_E b n q)))).toInt = -1 by omega), hK], hf⟩), (t_lq.ex (t_lq.I (t_lq.on (t_lq.on (t_lq.ex (t_lq.on t_lq.rf q7.2.2 (by omega)) q8.2 (by intro x hx; simp only [List.mem_cons, List.not_mem_nil, or_false] at hx; omega)) q13.2 (by omega)) q30.2.2 (by omega)) (by omega) e32) q33.2 (by intro x hx; simp only [List.mem_cons, List.not_mem_nil, or_false] at hx; omega))⟩)⟩⟩
            · have r36 : w33.toInt ≠ 0 := fun e => h34 (Int32.toInt_inj.mp (e.trans (by decide : (0:Int) = (0 : Int32).toInt)))
              have l37 : 1 ≤ w33.toInt := t_nel h34 l33 rfl rfl
              refine ev_loc f_X6_readShip (nx := 135) rfl rfl rfl rfl ?_
              refine ev_getR f_X6_readShip (nx := 138) (v := .ref (ar0 + 1)) rfl p_a0.1 rfl rfl ((hC33.1 ar0 0 (t_ninO hI.wf p_a0.1 (t_outO hI.wf p_a0.1 rfl) rfl)).2.2.trans ((hC30.1 ar0 0 (t_ninO hI.wf p_a0.1 (t_outO hI.wf p_a0.1 rfl) rfl)).2.2.trans ((hC13.1 ar0 0 (t_ninO hI.wf p_a0.1 (t_outO hI.wf p_a0.1 rfl) rfl)).2.2.trans ((hC8.1 ar0 0 (t_ninO hI.wf p_a0.1 (t_outO hI.wf p_a0.1 rfl) rfl)).2.2.trans ((hC7.1 ar0 0 (t_ninO hI.wf p_a0.1 (t_outO hI.wf p_a0.1 rfl) rfl)).2.2.trans e6))))) rfl rfl ?_
              have k38 := hI.2.2.2.1.2.2.2.2.2 (ar0 + 1) p6.1
              obtain ⟨v38, e38⟩ : ∃ v, gr33 (ar0 + 1) 7 = v := ⟨_, rfl⟩
              rw [e38] at k38
              refine ev_getR f_X6_readShip (nx := 141) rfl p6.1 rfl rfl e38 (t_KwR k38) rfl ?_
              refine ev_heap f_X6_readShip (nx := 144) rfl rfl rfl rfl ?_
              refine ev_ack f_X6_readShip (t1 := 147) (t2 := 167) rfl rfl rfl (t_knw k38) rfl (fun h39 => ?_) (fun h39 => ?_)
              · refine ev_loc f_X6_readShip (nx := 148) rfl rfl rfl rfl ?_
                refine ev_getR f_X6_readShip (nx := 151) (v := .ref (ar0 + 2)) rfl p_a0.1 rfl rfl ((hC33.1 ar0 1 (t_ninO hI.wf p_a0.1 (t_outO hI.wf p_a0.1 rfl) rfl)).2.2.trans ((hC30.1 ar0 1 (t_ninO hI.wf p_a0.1 (t_outO hI.wf p_a0.1 rfl) rfl)).2.2.trans ((hC13.1 ar0 1 (t_ninO hI.wf p_a0.1 (t_outO hI.wf p_a0.1 rfl) rfl)).2.2.trans ((hC8.1 ar0 1 (t_ninO hI.wf p_a0.1 (t_outO hI.wf p_a0.1 rfl) rfl)).2.2.trans ((hC7.1 ar0 1 (t_ninO hI.wf p_a0.1 (t_outO hI.wf p_a0.1 rfl) rfl)).2.2.trans e1))))) rfl rfl ?_
                refine ev_getR f_X6_readShip (nx := 154) (v := .ref (ar0 + 2 + 3)) rfl p1.1 rfl rfl ((hC33.1 (ar0 + 2) 7 (t_ninO hI.wf p1.1 (t_outO hI.wf p1.1 rfl) rfl)).2.2.trans ((hC30.1 (ar0 + 2) 7 (t_ninO hI.wf p1.1 (t_outO hI.wf p1.1 rfl) rfl)).2.2.trans ((hC13.1 (ar0 + 2) 7 (t_ninO hI.wf p1.1 (t_outO hI.wf p1.1 rfl) rfl)).2.2.trans ((hC8.1 (ar0 + 2) 7 (t_ninO hI.wf p1.1 (t_outO hI.wf p1.1 rfl) rfl)).2.2.trans ((hC7.1 (ar0 + 2) 7 (t_ninO hI.wf p1.1 (t_outO hI.wf p1.1 rfl) rfl)).2.2.trans e2))))) rfl rfl ?_
                have e40 := p2.2.2.2.2.2.2.1
                have p40 := p2.2.2.2.2.2.2.2
                refine ev_getR f_X6_readShip (nx := 157) rfl p2.1 rfl rfl e40 rfl rfl ?_
                refine ev_loc f_X6_readShip (nx := 158) rfl rfl rfl rfl ?_
                refine ev_ic f_X6_readShip (nx := 159) (v := 1) rfl (by decide) rfl ?_
                refine ev_zastV f_X6_readShip (nx := 160) rfl p40 l3 (by decide) u5 (by decide) (Int.le_trans (by decide : (0:Int) ≤ 1) (by decide : (1:Int) ≤ (1:Int32).toInt)) (by decide : (1:Int32).toInt ≤ (1:Int)) rfl (fun x _ _ => (hI.astO p40 (Or.inr (by have := p2.2.1; omega)) (by decide +kernel))) (fun x => hX.upI (t_inOA hI.wf p40 (Or.inr (by have := p2.2.1; omega)) rfl)) (fun g41 e41 hI hX => ?_)
                refine ev_loc f_X6_readShip (nx := 161) rfl rfl rfl rfl ?_
                refine ev_getR f_X6_readShip (nx := 164) (v := .ref (ar0 + 1)) rfl p_a0.1 rfl rfl ((hC33.1 ar0 0 (t_ninO hI.wf p_a0.1 (t_outO hI.wf p_a0.1 rfl) rfl)).2.2.trans ((hC30.1 ar0 0 (t_ninO hI.wf p_a0.1 (t_outO hI.wf p_a0.1 rfl) rfl)).2.2.trans ((hC13.1 ar0 0 (t_ninO hI.wf p_a0.1 (t_outO hI.wf p_a0.1 rfl) rfl)).2.2.trans ((hC8.1 ar0 0 (t_ninO hI.wf p_a0.1 (t_outO hI.wf p_a0.1 rfl) rfl)).2.2.trans ((hC7.1 ar0 0 (t_ninO hI.wf p_a0.1 (t_outO hI.wf p_a0.1 rfl) rfl)).2.2.trans e6))))) rfl rfl ?_
                refine ev_qN f_X6_readShip (nx := 167) (r := []) rfl rfl rfl rfl rfl rfl rfl (c_s_step hI ((ar0 + 1)) p6) rfl hX rfl (fun gi42 gl42 gr42 hI hX hC42 q42 => ?_)
                have q42 : (∀ (b : Nat → Int32) (n q : Nat), t_Sp b n q g41 (ar0 + 1) → t_TC b n q gi42 gl42 gr42 (ar0 + 1)) ∧ t_nf g41 gi42 (ar0 + 1) ∧ t_on (ar0 + 1) g41 gl33 gr33 gi42 gl42 gr42 := q42
                replace p_a0 := p_a0.ext hC42.2
                replace p1 := p1.ext hC42.2
                replace p2 := p2.ext hC42.2
                replace p6 := p6.ext hC42.2
                refine ev_ic f_X6_readShip (nx := 168) (v := 1) rfl (by decide) rfl ?_
                exact ev_ret f_X6_readShip rfl rfl rfl ⟨_, _, _, rfl, hI, hX, ⟨_, rfl, (Int.le_trans (by decide : (0:Int) ≤ 1) (by decide : (1:Int) ≤ (1:Int32).toInt)), (by decide : (1:Int32).toInt ≤ (1:Int)), (show (∀ (b : Nat → Int32) (n q : Nat) (D : s_D), t_CN b n q D gi gl gr ar0 → ((1 : Int) = 1 ∧ ∃ q2 D2, s_ship b n q D = s_ok q2 D2 ∧ t_CN b n q2 D2 gi42 gl42 gr42 ar0) ∨ ((1 : Int) = 0 ∧ ∃ p x D2, x ≠ 0 ∧ s_ship b n q D = s_bad b n p x D2 ∧ t_FL gi42 (ar0 + 1) (s_fk b n p x) (s_F b n p))) ∧ t_lq ar0 gi gl gr gi42 gl42 gr42 from ⟨(by
                                                            intro b n q D h
                                                            have h102 := p_a0.2.1
                                                            have h : t_CS b n q D (D 0 + D 1 + D 2) (s_used D) gi gl gr ar0 := h
                                                            obtain ⟨⟨hb1, hb2⟩, ⟨hb3, hb4⟩, hb5, hb6⟩ := h.2.1.1
                                                            have hp : (gi (ar0 + 2 + 3) 0).toInt = D 1 := h.2.1.2.2.2.2.1.1
                                                            have h1 := h.on (q7.1 b n _ h.1.S) q7.2.1 q7.2.2
                                                            obtain ⟨_, hN, hU, h3⟩ := (q8.1 b n _ D _ _ h1 (by omega)).resolve_right (fun hh => by rcases hh with hh | hh <;> exact absurd hh.1 (by omega))
                                                            obtain ⟨hv13, hW13, ht13, hf13⟩ := (q13.1 b n _ h3.1).resolve_right (fun hh => absurd hh.1 (by omega))
                                                            have h4 := h3.on ht13 hf13 q13.2
                                                            have hM := (q18 b n _ h4.1).mp (by omega)
                                                            have hL : (gl13 (ar0 + 1) 6) = s_L b n (s_E b n (s_E b n (s_E b n q))) := (h4.1.2.2.2.2.2.1 hM.1).2
                                                            have hG : w24.toInt = s_fp D (s_L b n (s_E b n (s_E b n (s_E b n q)))).toInt := by rw [← hL]; exact q24 b n _ D _ _ h4
                                                            have h5 := h4.on (q30.1 b n _ h4.1.S) q30.2.1 q30.2.2
                                                            have hA : ∀ K, K ≠ ar0 + 2 + 9 → g32 K = gi30 K := fun K hK => by rw [e32, x_up2_ne hK]
                                                            have hT0 := h5.1.eq (g1 := g32) (l1 := gl30) (r1 := gr30) (hA _ (by omega)) (hA _ (by omega)) rfl rfl
                                                            have hF0 : t_FL g32 (ar0 + 1) 0 (-1) := by rw [t_FL, hA _ (by omega)]; exact h5.2.2
                                                            obtain ⟨_, q2, x, y, z, hC, hT, hF, hm, r2, r3, r4, r5⟩ := (q33.1 b n _ D hT0 hF0).resolve_right (fun hh => absurd hh.1 (by omega))
                                                            have hce : gi30 (ar0 + 2 + 3) 0 = gi (ar0 + 2 + 3) 0 := Int32.toInt_inj.mp (by rw [h5.2.1.2.2.2.2.1.1, hp])
                                                            rw [hA (ar0 + 2 + 3 + 2) (by omega), hA (ar0 + 2 + 3) (by omega), hce] at r2
                                                            rw [hA (ar0 + 2 + 3 + 3) (by omega), hA (ar0 + 2 + 3) (by omega), hce] at r3
                                                            rw [hA (ar0 + 2 + 3 + 4) (by omega), hA (ar0 + 2 + 3) (by omega), hce] at r4
                                                            rw [hA (ar0 + 2 + 3 + 5) (by omega), hA (ar0 + 2 + 3) (by omega), hce] at r5
                                                            rw [hA (ar0 + 2 + 3) (by omega), hce, hp] at hm
                                                            have hcl := t_clamp (i := (gi (ar0 + 2 + 3) 0)) (by omega)
                                                            have hB : ∀ K, K ≠ ar0 + 1 → (K < ar0 + 2 + 3 ∨ ar0 + 2 + 3 + 5 < K) → K ≠ ar0 + 2 + 9 → gi33 K = gi30 K := fun K k1 k2 k3 => by rw [(q33.2 K (by intro x hx; simp only [List.mem_cons, List.not_mem_nil, or_false] at hx; omega)).1, hA K k3]
                                                            have hl : ∀ K, K ≠ ar0 + 1 → (K < ar0 + 2 + 3 ∨ ar0 + 2 + 3 + 5 < K) → gl33 K = gl30 K := fun K k1 k2 => by rw [(q33.2 K (by intro x hx; simp only [List.mem_cons, List.not_mem_nil, or_false] at hx; omega)).2.1]
                                                            have rp : t_ru (gi30 (ar0 + 2 + 9)) (gi33 (ar0 + 2 + 9)) (gi (ar0 + 2 + 3) 0).toNatClampNeg (s_fp D (s_L b n (s_E b n (s_E b n (s_E b n q)))).toInt) := t_ru_of (fun j => by rw [(q33.2 (ar0 + 2 + 9) (by intro x hx; simp only [List.mem_cons, List.not_mem_nil, or_false] at hx; omega)).1, e32, x_up2_same]) hG
                                                            have hW := hT.kwT e38 h39
                                                            have hD : ∀ K, K ≠ ar0 + 2 + 3 + 5 → g41 K = gi33 K := fun K hK => by rw [e41, x_up2_ne hK]
                                                            have hR := h5.2.1.ship (g1 := g41) (l1 := gl33) (nm := (s_L b n (s_E b n q)).toInt) (c := (gi (ar0 + 2 + 3) 0).toNatClampNeg) (by omega) (by omega) (by rw [hD _ (by omega)]; exact hm) (by rw [hD _ (by omega)]; exact rp) (by rw [hD _ (by omega)]; exact r2) (by rw [hD _ (by omega)]; exact r3) (by rw [hD _ (by omega)]; exact r4) (t_ru_up (v' := 1) r5 (fun j => by rw [e41, x_up2_same]) (by decide)) (fun c h19 h1 hc => by rw [hD _ (by omega)]; exact hB _ (by omega) (by omega) (by omega)) (fun c h19 h1 hc => hl _ (by omega) (by omega))
                                                            have hR2 := hR.sto h.2.1.1 (by omega)
                                                            have h6 : t_CS b n q2 _ _ _ g41 gl33 gr33 ar0 := ⟨hT.eq (hD _ (by omega)) (hD _ (by omega)) rfl rfl, hR2, by rw [t_FL, hD _ (by omega)]; exact hF⟩
                                                            have h7 := h6.on (q42.1 b n _ h6.1.S) q42.2.1 q42.2.2
                                                            exact Or.inl ⟨rfl, _, _, by simp only [s_ship, s_name, s_kw, s_ifF (show ¬ D 1 = 6 by omega), s_ifT hN, s_ifF hU, s_ifT hW13, s_ifT hM, s_ifF (show ¬ s_fp D (s_L b n (s_E b n (s_E b n (s_E b n q)))).toInt = -1 by omega), hC, s_ifT hW], h7⟩), (t_lq.on (t_lq.I (t_lq.ex (t_lq.I (t_lq.on (t_lq.on (t_lq.ex (t_lq.on t_lq.rf q7.2.2 (by omega)) q8.2 (by intro x hx; simp only [List.mem_cons, List.not_mem_nil, or_false] at hx; omega)) q13.2 (by omega)) q30.2.2 (by omega)) (by omega) e32) q33.2 (by intro x hx; simp only [List.mem_cons, List.not_mem_nil, or_false] at hx; omega)) (by omega) e41) q42.2.2 (by omega))⟩)⟩⟩
              · refine ev_ic f_X6_readShip (nx := 168) (v := 1) rfl (by decide) rfl ?_
                exact ev_ret f_X6_readShip rfl rfl rfl ⟨_, _, _, rfl, hI, hX, ⟨_, rfl, (Int.le_trans (by decide : (0:Int) ≤ 1) (by decide : (1:Int) ≤ (1:Int32).toInt)), (by decide : (1:Int32).toInt ≤ (1:Int)), (show (∀ (b : Nat → Int32) (n q : Nat) (D : s_D), t_CN b n q D gi gl gr ar0 → ((1 : Int) = 1 ∧ ∃ q2 D2, s_ship b n q D = s_ok q2 D2 ∧ t_CN b n q2 D2 gi33 gl33 gr33 ar0) ∨ ((1 : Int) = 0 ∧ ∃ p x D2, x ≠ 0 ∧ s_ship b n q D = s_bad b n p x D2 ∧ t_FL gi33 (ar0 + 1) (s_fk b n p x) (s_F b n p))) ∧ t_lq ar0 gi gl gr gi33 gl33 gr33 from ⟨(by
                                                            intro b n q D h
                                                            have h102 := p_a0.2.1
                                                            have h : t_CS b n q D (D 0 + D 1 + D 2) (s_used D) gi gl gr ar0 := h
                                                            obtain ⟨⟨hb1, hb2⟩, ⟨hb3, hb4⟩, hb5, hb6⟩ := h.2.1.1
                                                            have hp : (gi (ar0 + 2 + 3) 0).toInt = D 1 := h.2.1.2.2.2.2.1.1
                                                            have h1 := h.on (q7.1 b n _ h.1.S) q7.2.1 q7.2.2
                                                            obtain ⟨_, hN, hU, h3⟩ := (q8.1 b n _ D _ _ h1 (by omega)).resolve_right (fun hh => by rcases hh with hh | hh <;> exact absurd hh.1 (by omega))
                                                            obtain ⟨hv13, hW13, ht13, hf13⟩ := (q13.1 b n _ h3.1).resolve_right (fun hh => absurd hh.1 (by omega))
                                                            have h4 := h3.on ht13 hf13 q13.2
                                                            have hM := (q18 b n _ h4.1).mp (by omega)
                                                            have hL : (gl13 (ar0 + 1) 6) = s_L b n (s_E b n (s_E b n (s_E b n q))) := (h4.1.2.2.2.2.2.1 hM.1).2
                                                            have hG : w24.toInt = s_fp D (s_L b n (s_E b n (s_E b n (s_E b n q)))).toInt := by rw [← hL]; exact q24 b n _ D _ _ h4
                                                            have h5 := h4.on (q30.1 b n _ h4.1.S) q30.2.1 q30.2.2
                                                            have hA : ∀ K, K ≠ ar0 + 2 + 9 → g32 K = gi30 K := fun K hK => by rw [e32, x_up2_ne hK]
                                                            have hT0 := h5.1.eq (g1 := g32) (l1 := gl30) (r1 := gr30) (hA _ (by omega)) (hA _ (by omega)) rfl rfl
                                                            have hF0 : t_FL g32 (ar0 + 1) 0 (-1) := by rw [t_FL, hA _ (by omega)]; exact h5.2.2
                                                            obtain ⟨_, q2, x, y, z, hC, hT, hF, hm, r2, r3, r4, r5⟩ := (q33.1 b n _ D hT0 hF0).resolve_right (fun hh => absurd hh.1 (by omega))
                                                            have hce : gi30 (ar0 + 2 + 3) 0 = gi (ar0 + 2 + 3) 0 := Int32.toInt_inj.mp (by rw [h5.2.1.2.2.2.2.1.1, hp])
                                                            rw [hA (ar0 + 2 + 3 + 2) (by omega), hA (ar0 + 2 + 3) (by omega), hce] at r2
                                                            rw [hA (ar0 + 2 + 3 + 3) (by omega), hA (ar0 + 2 + 3) (by omega), hce] at r3
                                                            rw [hA (ar0 + 2 + 3 + 4) (by omega), hA (ar0 + 2 + 3) (by omega), hce] at r4
                                                            rw [hA (ar0 + 2 + 3 + 5) (by omega), hA (ar0 + 2 + 3) (by omega), hce] at r5
                                                            rw [hA (ar0 + 2 + 3) (by omega), hce, hp] at hm
                                                            have hcl := t_clamp (i := (gi (ar0 + 2 + 3) 0)) (by omega)
                                                            have hB : ∀ K, K ≠ ar0 + 1 → (K < ar0 + 2 + 3 ∨ ar0 + 2 + 3 + 5 < K) → K ≠ ar0 + 2 + 9 → gi33 K = gi30 K := fun K k1 k2 k3 => by rw [(q33.2 K (by intro x hx; simp only [List.mem_cons, List.not_mem_nil, or_false] at hx; omega)).1, hA K k3]
                                                            have hl : ∀ K, K ≠ ar0 + 1 → (K < ar0 + 2 + 3 ∨ ar0 + 2 + 3 + 5 < K) → gl33 K = gl30 K := fun K k1 k2 => by rw [(q33.2 K (by intro x hx; simp only [List.mem_cons, List.not_mem_nil, or_false] at hx; omega)).2.1]
                                                            have rp : t_ru (gi30 (ar0 + 2 + 9)) (gi33 (ar0 + 2 + 9)) (gi (ar0 + 2 + 3) 0).toNatClampNeg (s_fp D (s_L b n (s_E b n (s_E b n (s_E b n q)))).toInt) := t_ru_of (fun j => by rw [(q33.2 (ar0 + 2 + 9) (by intro x hx; simp only [List.mem_cons, List.not_mem_nil, or_false] at hx; omega)).1, e32, x_up2_same]) hG
                                                            have hW := hT.kwF e38 h39
                                                            have hR := h5.2.1.ship (g1 := gi33) (l1 := gl33) (nm := (s_L b n (s_E b n q)).toInt) (c := (gi (ar0 + 2 + 3) 0).toNatClampNeg) (by omega) (by omega) hm rp r2 r3 r4 r5 (fun c h19 h1 hc => hB _ (by omega) (by omega) (by omega)) (fun c h19 h1 hc => hl _ (by omega) (by omega))
                                                            have hR2 := hR.sto h.2.1.1 (by omega)
                                                            exact Or.inl ⟨rfl, _, _, by simp only [s_ship, s_name, s_kw, s_ifF (show ¬ D 1 = 6 by omega), s_ifT hN, s_ifF hU, s_ifT hW13, s_ifT hM, s_ifF (show ¬ s_fp D (s_L b n (s_E b n (s_E b n (s_E b n q)))).toInt = -1 by omega), hC, s_ifF hW], hT, hR2, hF⟩), (t_lq.ex (t_lq.I (t_lq.on (t_lq.on (t_lq.ex (t_lq.on t_lq.rf q7.2.2 (by omega)) q8.2 (by intro x hx; simp only [List.mem_cons, List.not_mem_nil, or_false] at hx; omega)) q13.2 (by omega)) q30.2.2 (by omega)) (by omega) e32) q33.2 (by intro x hx; simp only [List.mem_cons, List.not_mem_nil, or_false] at hx; omega))⟩)⟩⟩
  · have l43 : 6 ≤ (gi (ar0 + 2 + 3) 0).toInt := t_lel (t_nlt h4) (by decide : (6:Int) ≤ (6:Int32).toInt)
    refine ev_loc f_X6_readShip (nx := 18) rfl rfl rfl rfl ?_
    have e44 := p_a0.2.2.2.2.1.1
    have p44 := p_a0.2.2.2.2.1.2
    refine ev_getR f_X6_readShip (nx := 21) rfl p_a0.1 rfl rfl e44 rfl rfl ?_
    refine ev_bp f_X6_readShip (nx := 23) (v := 6) rfl (by decide) rfl ?_
    refine ev_qI f_X6_readShip (nx := 26) (r := []) rfl rfl rfl rfl rfl rfl rfl (c_s_refuse hI ((ar0 + 1)) p44 (6) (Int.le_trans (by decide : (2:Int) ≤ 6) (by decide : (6:Int) ≤ (6:Int32).toInt)) (Int.le_trans (by decide : (6:Int32).toInt ≤ (6:Int)) (by decide : (6:Int) ≤ 7))) rfl hX rfl (fun w45 gi45 gl45 gr45 l45 u45 hI hX hC45 q45 => ?_)
    have q45 : (∀ (b : Nat → Int32) (n q : Nat), t_TC b n q gi gl gr (ar0 + 1) → t_FL gi45 (ar0 + 1) (s_fk b n q 6) (s_F b n q)) ∧ w45.toInt = 0 ∧ t_on (ar0 + 1) gi gl gr gi45 gl45 gr45 := q45
    replace p_a0 := p_a0.ext hC45.2
    replace p1 := p1.ext hC45.2
    replace p2 := p2.ext hC45.2
    replace p44 := p44.ext hC45.2
    exact ev_retZ f_X6_readShip rfl l45 (Int.le_trans u45 (by decide : (0:Int) ≤ 1)) ⟨_, _, _, rfl, hI, hX, ⟨_, rfl, l45, (Int.le_trans u45 (by decide : (0:Int) ≤ 1)), (show (∀ (b : Nat → Int32) (n q : Nat) (D : s_D), t_CN b n q D gi gl gr ar0 → (w45.toInt = 1 ∧ ∃ q2 D2, s_ship b n q D = s_ok q2 D2 ∧ t_CN b n q2 D2 gi45 gl45 gr45 ar0) ∨ (w45.toInt = 0 ∧ ∃ p x D2, x ≠ 0 ∧ s_ship b n q D = s_bad b n p x D2 ∧ t_FL gi45 (ar0 + 1) (s_fk b n p x) (s_F b n p))) ∧ t_lq ar0 gi gl gr gi45 gl45 gr45 from ⟨(by
                                                            intro b n q D h
                                                            have h102 := p_a0.2.1
                                                            have h : t_CS b n q D (D 0 + D 1 + D 2) (s_used D) gi gl gr ar0 := h
                                                            obtain ⟨⟨hb1, hb2⟩, ⟨hb3, hb4⟩, hb5, hb6⟩ := h.2.1.1
                                                            have hp : (gi (ar0 + 2 + 3) 0).toInt = D 1 := h.2.1.2.2.2.2.1.1
                                                            exact Or.inr ⟨q45.2.1, _, 6, D, by decide, by simp only [s_ship, s_ifT (show D 1 = 6 by omega)], q45.1 b n q h.1⟩), (t_lq.on t_lq.rf q45.2.2 (by omega))⟩)⟩⟩
noncomputable def wl_s_readCart : List (Nat × Nat) := [(6, 0), (7, 9999), (8, 9999), (9, 9999), (10, 9999), (11, 9999), (12, 9999), (13, 0), (14, 9999), (15, 9999), (16, 9999), (17, 9999), (18, 9999), (29, 0), (30, 9999), (31, 9999), (32, 9999), (33, 9999), (34, 9999), (35, 0), (36, 9999), (37, 9999), (38, 9999), (39, 9999), (40, 9999), (43, 9999), (44, 9999), (46, 0), (47, 9999), (48, 9999), (49, 9999), (50, 9999), (51, 9999), (52, 0), (53, 9999), (54, 9999), (55, 9999), (56, 9999), (57, 9999), (58, 9999), (59, 9999), (113, 0), (115, 4), (118, 2), (118, 3), (118, 4), (118, 5), (118, 6), (118, 7), (118, 8), (118, 9), (118, 10), (118, 11), (130, 9999), (131, 9999), (133, 9999)]
noncomputable def Q_s_readCart (gi : Nat → Nat → Int32) (gl : Nat → Nat → Int64) (gr : Nat → Nat → Value) (ar0 : Nat) : Int32 → (Nat → Nat → Int32) → (Nat → Nat → Int64) → (Nat → Nat → Value) → Prop := fun (v : Int32) (gi2 : Nat → Nat → Int32) (gl2 : Nat → Nat → Int64) (gr2 : Nat → Nat → Value) => (∀ (b : Nat → Int32) (n q : Nat) (D : s_D), t_CN b n q D gi gl gr ar0 → (v.toInt = 1 ∧ ∃ q2 D2, s_cart b n q D = s_ok q2 D2 ∧ t_CN b n q2 D2 gi2 gl2 gr2 ar0) ∨ (v.toInt = 0 ∧ ∃ p x D2, x ≠ 0 ∧ s_cart b n q D = s_bad b n p x D2 ∧ t_FL gi2 (ar0 + 1) (s_fk b n p x) (s_F b n p))) ∧ t_lq ar0 gi gl gr gi2 gl2 gr2
theorem c_s_readCart {X : x_Ext} {d : Nat} {sh : List (Nat ⊕ (Nat × Nat))} {gi : Nat → Nat → Int32} {gl : Nat → Nat → Int64} {gr : Nat → Nat → Value} (hI : t_I sh gi gr) (ar0 : Nat) (p_a0 : t_RQ sh gr ar0) : x_Me X (d + 5) n_X6_readCart [.ref ar0] (sh, gi, gl, gr) (t_PI wl_s_readCart sh gi gl gr 0 1 (Q_s_readCart gi gl gr ar0)) := by
  have hX : t_X wl_s_readCart sh gi gl gr gi gl gr := t_X.rf
  refine me_i f_X6_readCart p_a0.1 rfl rfl rfl ?_
  refine ev_loc f_X6_readCart (nx := 1) rfl rfl rfl rfl ?_
  have e1 := p_a0.2.2.2.2.2.1
  have p1 := p_a0.2.2.2.2.2.2
  refine ev_getR f_X6_readCart (nx := 4) rfl p_a0.1 rfl rfl e1 rfl rfl ?_
  have e2 := p1.2.2.2.2.2.2.1
  have p2 := p1.2.2.2.2.2.2.2
  refine ev_getR f_X6_readCart (nx := 7) rfl p1.1 rfl rfl e2 rfl rfl ?_
  refine ev_getI f_X6_readCart (nx := 10) rfl p2.1 rfl rfl rfl ?_
  obtain ⟨l3, u3⟩ := hI.b p2.1 (t_bdK rfl : t_bd 3 0 = some (0, 6))
  refine ev_bp f_X6_readCart (nx := 12) (v := 6) rfl (by decide) rfl ?_
  refine ev_if f_X6_readCart (t1 := 25) (t2 := 15) rfl rfl rfl (fun h4 => ?_) (fun h4 => ?_)
  · have u5 : (gi (ar0 + 2 + 10) 0).toInt ≤ 5 := t_ltu h4 (by decide : (6:Int32).toInt ≤ (6:Int)) rfl
    refine ev_loc f_X6_readCart (nx := 26) rfl rfl rfl rfl ?_
    have e6 := p_a0.2.2.2.2.1.1
    have p6 := p_a0.2.2.2.2.1.2
    refine ev_getR f_X6_readCart (nx := 29) rfl p_a0.1 rfl rfl e6 rfl rfl ?_
    refine ev_qN f_X6_readCart (nx := 32) (r := []) rfl rfl rfl rfl rfl rfl rfl (c_s_step hI ((ar0 + 1)) p6) rfl hX rfl (fun gi7 gl7 gr7 hI hX hC7 q7 => ?_)
    have q7 : (∀ (b : Nat → Int32) (n q : Nat), t_Sp b n q gi (ar0 + 1) → t_TC b n q gi7 gl7 gr7 (ar0 + 1)) ∧ t_nf gi gi7 (ar0 + 1) ∧ t_on (ar0 + 1) gi gl gr gi7 gl7 gr7 := q7
    replace p_a0 := p_a0.ext hC7.2
    replace p1 := p1.ext hC7.2
    replace p2 := p2.ext hC7.2
    replace p6 := p6.ext hC7.2
    refine ev_loc f_X6_readCart (nx := 33) rfl rfl rfl rfl ?_
    refine ev_qI f_X6_readCart (nx := 36) (r := []) rfl rfl rfl rfl rfl rfl rfl (c_s_takeNewName hI (ar0) p_a0) rfl hX rfl (fun w8 gi8 gl8 gr8 l8 u8 hI hX hC8 q8 => ?_)
    have q8 : (∀ (b : Nat → Int32) (n q : Nat) (D : s_D) (m : Int) (P : Int → Prop), t_CS b n q D m P gi7 gl7 gr7 ar0 → m < 18 → (w8.toInt = 1 ∧ s_isN b n q ∧ ¬ P (s_L b n q).toInt ∧ t_CS b n (s_E b n q) D (m + 1) (fun x => P x ∨ x = (s_L b n q).toInt) gi8 gl8 gr8 ar0) ∨ (w8.toInt = 0 ∧ ¬ s_isN b n q ∧ t_FL gi8 (ar0 + 1) (s_fk b n q 2) (s_F b n q)) ∨ (w8.toInt = 0 ∧ s_isN b n q ∧ P (s_L b n q).toInt ∧ t_FL gi8 (ar0 + 1) (s_fk b n q 3) (s_F b n q))) ∧ t_xc [ar0, ar0 + 1, ar0 + 19] gi7 gl7 gr7 gi8 gl8 gr8 := q8
    replace p_a0 := p_a0.ext hC8.2
    replace p1 := p1.ext hC8.2
    replace p2 := p2.ext hC8.2
    replace p6 := p6.ext hC8.2
    refine ev_if f_X6_readCart (t1 := 57) (t2 := 39) rfl rfl rfl (fun h9 => ?_) (fun h9 => ?_)
    · have u10 : w8.toInt ≤ 0 := t_equ h9 (by decide : (0:Int32).toInt ≤ (0:Int))
      refine ev_ic f_X6_readCart (nx := 58) (v := 0) rfl (by decide) rfl ?_
      exact ev_ret f_X6_readCart rfl rfl rfl ⟨_, _, _, rfl, hI, hX, ⟨_, rfl, (by decide : (0:Int) ≤ (0:Int32).toInt), (Int.le_trans (by decide : (0:Int32).toInt ≤ (0:Int)) (by decide : (0:Int) ≤ 1)), (show (∀ (b : Nat → Int32) (n q : Nat) (D : s_D), t_CN b n q D gi gl gr ar0 → ((0 : Int) = 1 ∧ ∃ q2 D2, s_cart b n q D = s_ok q2 D2 ∧ t_CN b n q2 D2 gi8 gl8 gr8 ar0) ∨ ((0 : Int) = 0 ∧ ∃ p x D2, x ≠ 0 ∧ s_cart b n q D = s_bad b n p x D2 ∧ t_FL gi8 (ar0 + 1) (s_fk b n p x) (s_F b n p))) ∧ t_lq ar0 gi gl gr gi8 gl8 gr8 from ⟨(by
                                                            intro b n q D h
                                                            have h102 := p_a0.2.1
                                                            have h : t_CS b n q D (D 0 + D 1 + D 2) (s_used D) gi gl gr ar0 := h
                                                            obtain ⟨⟨hb1, hb2⟩, ⟨hb3, hb4⟩, hb5, hb6⟩ := h.2.1.1
                                                            have hp : (gi (ar0 + 2 + 10) 0).toInt = D 2 := h.2.1.2.2.2.2.2.1
                                                            have h1 := h.on (q7.1 b n _ h.1.S) q7.2.1 q7.2.2
                                                            rcases q8.1 b n _ D _ _ h1 (by omega) with hh | hh | hh
                                                            · exact absurd hh.1 (by omega)
                                                            · exact Or.inr ⟨rfl, _, 2, D, by decide, by simp only [s_cart, s_name, s_ifF (show ¬ D 2 = 6 by omega), s_ifF hh.2.1], hh.2.2⟩
                                                            · exact Or.inr ⟨rfl, _, 3, D, by decide, by simp only [s_cart, s_name, s_ifF (show ¬ D 2 = 6 by omega), s_ifT hh.2.1, s_ifT hh.2.2.1], hh.2.2.2⟩), (t_lq.ex (t_lq.on t_lq.rf q7.2.2 (by omega)) q8.2 (by intro x hx; simp only [List.mem_cons, List.not_mem_nil, or_false] at hx; omega))⟩)⟩⟩
    · have r11 : w8.toInt ≠ 0 := fun e => h9 (Int32.toInt_inj.mp (e.trans (by decide : (0:Int) = (0 : Int32).toInt)))
      have l12 : 1 ≤ w8.toInt := t_nel h9 l8 rfl rfl
      refine ev_loc f_X6_readCart (nx := 40) rfl rfl rfl rfl ?_
      refine ev_loc f_X6_readCart (nx := 41) rfl rfl rfl rfl ?_
      refine ev_getR f_X6_readCart (nx := 44) (v := .ref (ar0 + 2)) rfl p_a0.1 rfl rfl ((hC8.1 ar0 1 (t_ninO hI.wf p_a0.1 (t_outO hI.wf p_a0.1 rfl) rfl)).2.2.trans ((hC7.1 ar0 1 (t_ninO hI.wf p_a0.1 (t_outO hI.wf p_a0.1 rfl) rfl)).2.2.trans e1)) rfl rfl ?_
      refine ev_getR f_X6_readCart (nx := 47) (v := .ref (ar0 + 2 + 10)) rfl p1.1 rfl rfl ((hC8.1 (ar0 + 2) 9 (t_ninO hI.wf p1.1 (t_outO hI.wf p1.1 rfl) rfl)).2.2.trans ((hC7.1 (ar0 + 2) 9 (t_ninO hI.wf p1.1 (t_outO hI.wf p1.1 rfl) rfl)).2.2.trans e2)) rfl rfl ?_
      refine ev_qI f_X6_readCart (nx := 50) (r := []) rfl rfl rfl rfl rfl rfl rfl (c_s_readComing hI (ar0) p_a0 ((ar0 + 2 + 10)) p2 (by have ff2 : (gi8 (ar0 + 2 + 10) 0).toInt = (gi (ar0 + 2 + 10) 0).toInt := congrArg Int32.toInt ((hC8.1 (ar0 + 2 + 10) 0 (t_ninO hI.wf p2.1 (t_outO hI.wf p2.1 rfl) rfl)).1.trans ((hC7.1 (ar0 + 2 + 10) 0 (t_ninO hI.wf p2.1 (t_outO hI.wf p2.1 rfl) rfl)).1.trans rfl)); omega) (by omega)) rfl hX rfl (fun w13 gi13 gl13 gr13 l13 u13 hI hX hC13 q13 => ?_)
      have q13 : (∀ (b : Nat → Int32) (n q : Nat) (D : s_D), t_TC b n q gi8 gl8 gr8 (ar0 + 1) → t_FL gi8 (ar0 + 1) 0 (-1) → (w13.toInt = 1 ∧ ∃ q2 x y z, (∀ K, s_come b n q D K = K q2 x y z) ∧ t_TC b n q2 gi13 gl13 gr13 (ar0 + 1) ∧ t_FL gi13 (ar0 + 1) 0 (-1) ∧ (gi13 (ar0 + 2 + 10) 0).toInt = (gi8 (ar0 + 2 + 10) 0).toInt + 1 ∧ t_ru (gi8 ((ar0 + 2 + 10) + 2)) (gi13 ((ar0 + 2 + 10) + 2)) (gi8 (ar0 + 2 + 10) 0).toNatClampNeg x ∧ t_ru (gi8 ((ar0 + 2 + 10) + 3)) (gi13 ((ar0 + 2 + 10) + 3)) (gi8 (ar0 + 2 + 10) 0).toNatClampNeg y ∧ t_ru (gi8 ((ar0 + 2 + 10) + 4)) (gi13 ((ar0 + 2 + 10) + 4)) (gi8 (ar0 + 2 + 10) 0).toNatClampNeg z ∧ t_ru (gi8 ((ar0 + 2 + 10) + 5)) (gi13 ((ar0 + 2 + 10) + 5)) (gi8 (ar0 + 2 + 10) 0).toNatClampNeg 0) ∨ (w13.toInt = 0 ∧ ∃ p x, x ≠ 0 ∧ (∀ K, s_come b n q D K = s_bad b n p x D) ∧ t_FL gi13 (ar0 + 1) (s_fk b n p x) (s_F b n p))) ∧ t_xc [ar0 + 1, (ar0 + 2 + 10), (ar0 + 2 + 10) + 1, (ar0 + 2 + 10) + 2, (ar0 + 2 + 10) + 3, (ar0 + 2 + 10) + 4, (ar0 + 2 + 10) + 5] gi8 gl8 gr8 gi13 gl13 gr13 := q13
      replace p_a0 := p_a0.ext hC13.2
      replace p1 := p1.ext hC13.2
      replace p2 := p2.ext hC13.2
      replace p6 := p6.ext hC13.2
      refine ev_if f_X6_readCart (t1 := 57) (t2 := 53) rfl rfl rfl (fun h14 => ?_) (fun h14 => ?_)
      · have u15 : w13.toInt ≤ 0 := t_equ h14 (by decide : (0:Int32).toInt ≤ (0:Int))
        refine ev_ic f_X6_readCart (nx := 58) (v := 0) rfl (by decide) rfl ?_
        exact ev_ret f_X6_readCart rfl rfl rfl ⟨_, _, _, rfl, hI, hX, ⟨_, rfl, (by decide : (0:Int) ≤ (0:Int32).toInt), (Int.le_trans (by decide : (0:Int32).toInt ≤ (0:Int)) (by decide : (0:Int) ≤ 1)), (show (∀ (b : Nat → Int32) (n q : Nat) (D : s_D), t_CN b n q D gi gl gr ar0 → ((0 : Int) = 1 ∧ ∃ q2 D2, s_cart b n q D = s_ok q2 D2 ∧ t_CN b n q2 D2 gi13 gl13 gr13 ar0) ∨ ((0 : Int) = 0 ∧ ∃ p x D2, x ≠ 0 ∧ s_cart b n q D = s_bad b n p x D2 ∧ t_FL gi13 (ar0 + 1) (s_fk b n p x) (s_F b n p))) ∧ t_lq ar0 gi gl gr gi13 gl13 gr13 from ⟨(by
                                                            intro b n q D h
                                                            have h102 := p_a0.2.1
                                                            have h : t_CS b n q D (D 0 + D 1 + D 2) (s_used D) gi gl gr ar0 := h
                                                            obtain ⟨⟨hb1, hb2⟩, ⟨hb3, hb4⟩, hb5, hb6⟩ := h.2.1.1
                                                            have hp : (gi (ar0 + 2 + 10) 0).toInt = D 2 := h.2.1.2.2.2.2.2.1
                                                            have h1 := h.on (q7.1 b n _ h.1.S) q7.2.1 q7.2.2
                                                            obtain ⟨_, hN, hU, h3⟩ := (q8.1 b n _ D _ _ h1 (by omega)).resolve_right (fun hh => by rcases hh with hh | hh <;> exact absurd hh.1 (by omega))
                                                            rcases q13.1 b n _ D h3.1 h3.2.2 with hh | hh
                                                            · exact absurd hh.1 (by omega)
                                                            · obtain ⟨_, p, x, hx, hK, hf⟩ := hh
                                                              exact Or.inr ⟨rfl, p, x, D, hx, by simp only [s_cart, s_name, s_ifF (show ¬ D 2 = 6 by omega), s_ifT hN, s_ifF hU, hK], hf⟩), (t_lq.ex (t_lq.ex (t_lq.on t_lq.rf q7.2.2 (by omega)) q8.2 (by intro x hx; simp only [List.mem_cons, List.not_mem_nil, or_false] at hx; omega)) q13.2 (by intro x hx; simp only [List.mem_cons, List.not_mem_nil, or_false] at hx; omega))⟩)⟩⟩
      · have r16 : w13.toInt ≠ 0 := fun e => h14 (Int32.toInt_inj.mp (e.trans (by decide : (0:Int) = (0 : Int32).toInt)))
        have l17 : 1 ≤ w13.toInt := t_nel h14 l13 rfl rfl
        refine ev_ic f_X6_readCart (nx := 54) (v := 1) rfl (by decide) rfl ?_
        refine ev_jmp f_X6_readCart (nx := 58) rfl rfl rfl ?_
        exact ev_ret f_X6_readCart rfl rfl rfl ⟨_, _, _, rfl, hI, hX, ⟨_, rfl, (Int.le_trans (by decide : (0:Int) ≤ 1) (by decide : (1:Int) ≤ (1:Int32).toInt)), (by decide : (1:Int32).toInt ≤ (1:Int)), (show (∀ (b : Nat → Int32) (n q : Nat) (D : s_D), t_CN b n q D gi gl gr ar0 → ((1 : Int) = 1 ∧ ∃ q2 D2, s_cart b n q D = s_ok q2 D2 ∧ t_CN b n q2 D2 gi13 gl13 gr13 ar0) ∨ ((1 : Int) = 0 ∧ ∃ p x D2, x ≠ 0 ∧ s_cart b n q D = s_bad b n p x D2 ∧ t_FL gi13 (ar0 + 1) (s_fk b n p x) (s_F b n p))) ∧ t_lq ar0 gi gl gr gi13 gl13 gr13 from ⟨(by
                                                            intro b n q D h
                                                            have h102 := p_a0.2.1
                                                            have h : t_CS b n q D (D 0 + D 1 + D 2) (s_used D) gi gl gr ar0 := h
                                                            obtain ⟨⟨hb1, hb2⟩, ⟨hb3, hb4⟩, hb5, hb6⟩ := h.2.1.1
                                                            have hp : (gi (ar0 + 2 + 10) 0).toInt = D 2 := h.2.1.2.2.2.2.2.1
                                                            have h1 := h.on (q7.1 b n _ h.1.S) q7.2.1 q7.2.2
                                                            obtain ⟨_, hN, hU, h3⟩ := (q8.1 b n _ D _ _ h1 (by omega)).resolve_right (fun hh => by rcases hh with hh | hh <;> exact absurd hh.1 (by omega))
                                                            obtain ⟨_, q2, x, y, z, hC, hT, hF, hm, r2, r3, r4, r5⟩ := (q13.1 b n _ D h3.1 h3.2.2).resolve_right (fun hh => absurd hh.1 (by omega))
                                                            have hce : gi8 (ar0 + 2 + 10) 0 = gi (ar0 + 2 + 10) 0 := Int32.toInt_inj.mp (by rw [h3.2.1.2.2.2.2.2.1, hp])
                                                            rw [hce] at r2
                                                            rw [hce] at r3
                                                            rw [hce] at r4
                                                            rw [hce, hp] at hm
                                                            have hcl := t_clamp (i := (gi (ar0 + 2 + 10) 0)) (by omega)
                                                            have hB : ∀ K, K ≠ ar0 + 1 → (K < ar0 + 2 + 10 ∨ ar0 + 2 + 10 + 5 < K) → gi13 K = gi8 K ∧ gl13 K = gl8 K := fun K k1 k2 => have q9 := q13.2 K (by intro x hx; simp only [List.mem_cons, List.not_mem_nil, or_false] at hx; omega); ⟨q9.1, q9.2.1⟩
                                                            have hR := h3.2.1.cart (g1 := gi13) (l1 := gl13) (nm := (s_L b n (s_E b n q)).toInt) (c := (gi (ar0 + 2 + 10) 0).toNatClampNeg) (by omega) (by omega) hm r2 r3 r4 (fun c h19 h1 hc => (hB _ (by omega) (by omega)).1) (fun c h19 h1 hc => (hB _ (by omega) (by omega)).2)
                                                            have hR2 := hR.cto h.2.1.1 (by omega)
                                                            exact Or.inl ⟨rfl, _, _, by simp only [s_cart, s_name, s_ifF (show ¬ D 2 = 6 by omega), s_ifT hN, s_ifF hU, hC], hT, hR2, hF⟩), (t_lq.ex (t_lq.ex (t_lq.on t_lq.rf q7.2.2 (by omega)) q8.2 (by intro x hx; simp only [List.mem_cons, List.not_mem_nil, or_false] at hx; omega)) q13.2 (by intro x hx; simp only [List.mem_cons, List.not_mem_nil, or_false] at hx; omega))⟩)⟩⟩
  · have l18 : 6 ≤ (gi (ar0 + 2 + 10) 0).toInt := t_lel (t_nlt h4) (by decide : (6:Int) ≤ (6:Int32).toInt)
    refine ev_loc f_X6_readCart (nx := 16) rfl rfl rfl rfl ?_
    have e19 := p_a0.2.2.2.2.1.1
    have p19 := p_a0.2.2.2.2.1.2
    refine ev_getR f_X6_readCart (nx := 19) rfl p_a0.1 rfl rfl e19 rfl rfl ?_
    refine ev_bp f_X6_readCart (nx := 21) (v := 6) rfl (by decide) rfl ?_
    refine ev_qI f_X6_readCart (nx := 24) (r := []) rfl rfl rfl rfl rfl rfl rfl (c_s_refuse hI ((ar0 + 1)) p19 (6) (Int.le_trans (by decide : (2:Int) ≤ 6) (by decide : (6:Int) ≤ (6:Int32).toInt)) (Int.le_trans (by decide : (6:Int32).toInt ≤ (6:Int)) (by decide : (6:Int) ≤ 7))) rfl hX rfl (fun w20 gi20 gl20 gr20 l20 u20 hI hX hC20 q20 => ?_)
    have q20 : (∀ (b : Nat → Int32) (n q : Nat), t_TC b n q gi gl gr (ar0 + 1) → t_FL gi20 (ar0 + 1) (s_fk b n q 6) (s_F b n q)) ∧ w20.toInt = 0 ∧ t_on (ar0 + 1) gi gl gr gi20 gl20 gr20 := q20
    replace p_a0 := p_a0.ext hC20.2
    replace p1 := p1.ext hC20.2
    replace p2 := p2.ext hC20.2
    replace p19 := p19.ext hC20.2
    exact ev_retZ f_X6_readCart rfl l20 (Int.le_trans u20 (by decide : (0:Int) ≤ 1)) ⟨_, _, _, rfl, hI, hX, ⟨_, rfl, l20, (Int.le_trans u20 (by decide : (0:Int) ≤ 1)), (show (∀ (b : Nat → Int32) (n q : Nat) (D : s_D), t_CN b n q D gi gl gr ar0 → (w20.toInt = 1 ∧ ∃ q2 D2, s_cart b n q D = s_ok q2 D2 ∧ t_CN b n q2 D2 gi20 gl20 gr20 ar0) ∨ (w20.toInt = 0 ∧ ∃ p x D2, x ≠ 0 ∧ s_cart b n q D = s_bad b n p x D2 ∧ t_FL gi20 (ar0 + 1) (s_fk b n p x) (s_F b n p))) ∧ t_lq ar0 gi gl gr gi20 gl20 gr20 from ⟨(by
                                                            intro b n q D h
                                                            have h102 := p_a0.2.1
                                                            have h : t_CS b n q D (D 0 + D 1 + D 2) (s_used D) gi gl gr ar0 := h
                                                            obtain ⟨⟨hb1, hb2⟩, ⟨hb3, hb4⟩, hb5, hb6⟩ := h.2.1.1
                                                            have hp : (gi (ar0 + 2 + 10) 0).toInt = D 2 := h.2.1.2.2.2.2.2.1
                                                            exact Or.inr ⟨q20.2.1, _, 6, D, by decide, by simp only [s_cart, s_ifT (show D 2 = 6 by omega)], q20.1 b n q h.1⟩), (t_lq.on t_lq.rf q20.2.2 (by omega))⟩)⟩⟩
