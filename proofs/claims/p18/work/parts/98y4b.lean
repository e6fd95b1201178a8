/-! ===== printed by riv.py: the RIVER of the class ===== -/
noncomputable def wl_s_readPort : List (Nat × Nat) := [(3, 0), (4, 9999), (5, 9999), (114, 0), (115, 4), (118, 2), (118, 3), (118, 4), (118, 5), (118, 6), (118, 7), (118, 8), (118, 9), (118, 10), (118, 11), (131, 9999)]
noncomputable def Q_s_readPort (gi : Nat → Nat → Int32) (gl : Nat → Nat → Int64) (gr : Nat → Nat → Value) (ar0 : Nat) : Int32 → (Nat → Nat → Int32) → (Nat → Nat → Int64) → (Nat → Nat → Value) → Prop := fun (v : Int32) (gi2 : Nat → Nat → Int32) (gl2 : Nat → Nat → Int64) (gr2 : Nat → Nat → Value) => (∀ (b : Nat → Int32) (n q : Nat) (D : s_D), t_CN b n q D gi gl gr ar0 → (v.toInt = 1 ∧ ∃ q2 D2, s_port b n q D = s_ok q2 D2 ∧ t_CN b n q2 D2 gi2 gl2 gr2 ar0) ∨ (v.toInt = 0 ∧ ∃ p x D2, x ≠ 0 ∧ s_port b n q D = s_bad b n p x D2 ∧ t_FL gi2 (ar0 + 1) (s_fk b n p x) (s_F b n p))) ∧ t_lq ar0 gi gl gr gi2 gl2 gr2
theorem c_s_readPort {X : x_Ext} {d : Nat} {sh : List (Nat ⊕ (Nat × Nat))} {gi : Nat → Nat → Int32} {gl : Nat → Nat → Int64} {gr : Nat → Nat → Value} (hI : t_I sh gi gr) (ar0 : Nat) (p_a0 : t_RQ sh gr ar0) : x_Me X (d + 4) n_X6_readPort [.ref ar0] (sh, gi, gl, gr) (t_PI wl_s_readPort sh gi gl gr 0 1 (Q_s_readPort gi gl gr ar0)) := by
  have hX : t_X wl_s_readPort sh gi gl gr gi gl gr := t_X.rf
  refine me_i f_X6_readPort p_a0.1 rfl rfl rfl ?_
  refine ev_loc f_X6_readPort (nx := 1) rfl rfl rfl rfl ?_
  have e1 := p_a0.2.2.2.2.2.1
  have p1 := p_a0.2.2.2.2.2.2
  refine ev_getR f_X6_readPort (nx := 4) rfl p_a0.1 rfl rfl e1 rfl rfl ?_
  refine ev_getI f_X6_readPort (nx := 7) rfl p1.1 rfl rfl rfl ?_
  obtain ⟨l2, u2⟩ := hI.b p1.1 (t_bdK rfl : t_bd 4 0 = some (0, 6))
  refine ev_loc f_X6_readPort (nx := 8) (lo' := [(1, .int (gi (ar0 + 2) 0)), (0, .ref ar0)]) rfl rfl rfl rfl ?_
  refine ev_loc f_X6_readPort (nx := 9) rfl rfl rfl rfl ?_
  refine ev_bp f_X6_readPort (nx := 11) (v := 6) rfl (by decide) rfl ?_
  refine ev_if f_X6_readPort (t1 := 24) (t2 := 14) rfl rfl rfl (fun h3 => ?_) (fun h3 => ?_)
  · have u4 : (gi (ar0 + 2) 0).toInt ≤ 5 := t_ltu h3 (by decide : (6:Int32).toInt ≤ (6:Int)) rfl
    refine ev_loc f_X6_readPort (nx := 25) rfl rfl rfl rfl ?_
    have e5 := p_a0.2.2.2.2.1.1
    have p5 := p_a0.2.2.2.2.1.2
    refine ev_getR f_X6_readPort (nx := 28) rfl p_a0.1 rfl rfl e5 rfl rfl ?_
    refine ev_qN f_X6_readPort (nx := 31) (r := []) rfl rfl rfl rfl rfl rfl rfl (c_s_step hI ((ar0 + 1)) p5) rfl hX rfl (fun gi6 gl6 gr6 hI hX hC6 q6 => ?_)
    have q6 : (∀ (b : Nat → Int32) (n q : Nat), t_Sp b n q gi (ar0 + 1) → t_TC b n q gi6 gl6 gr6 (ar0 + 1)) ∧ t_nf gi gi6 (ar0 + 1) ∧ t_on (ar0 + 1) gi gl gr gi6 gl6 gr6 := q6
    replace p_a0 := p_a0.ext hC6.2
    replace p1 := p1.ext hC6.2
    replace p5 := p5.ext hC6.2
    refine ev_loc f_X6_readPort (nx := 32) rfl rfl rfl rfl ?_
    have e7 := p_a0.2.2.1.1
    have p7 := p_a0.2.2.1.2
    refine ev_getR f_X6_readPort (nx := 35) rfl p_a0.1 rfl rfl e7 rfl rfl ?_
    refine ev_loc f_X6_readPort (nx := 36) rfl rfl rfl rfl ?_
    refine ev_loc f_X6_readPort (nx := 37) rfl rfl rfl rfl ?_
    refine ev_getR f_X6_readPort (nx := 40) (v := .ref (ar0 + 1)) rfl p_a0.1 rfl rfl ((hC6.1 ar0 0 (t_ninO hI.wf p_a0.1 (t_outO hI.wf p_a0.1 rfl) rfl)).2.2.trans e5) rfl rfl ?_
    refine ev_getL f_X6_readPort (nx := 43) rfl p5.1 rfl rfl rfl ?_
    refine ev_lastT f_X6_readPort (nx := 44) rfl p7 l2 (by decide) u4 (by decide) rfl (hX.upL (t_inOA hI.wf p7 (Or.inr (by have := p_a0.2.1; omega)) rfl)) (fun g8 e8 hX => ?_)
    refine ev_loc f_X6_readPort (nx := 45) rfl rfl rfl rfl ?_
    refine ev_qI f_X6_readPort (nx := 48) (r := []) rfl rfl rfl rfl rfl rfl rfl (c_s_takeNewName hI (ar0) p_a0) rfl hX rfl (fun w9 gi9 gl9 gr9 l9 u9 hI hX hC9 q9 => ?_)
    have q9 : (∀ (b : Nat → Int32) (n q : Nat) (D : s_D) (m : Int) (P : Int → Prop), t_CS b n q D m P gi6 g8 gr6 ar0 → m < 18 → (w9.toInt = 1 ∧ s_isN b n q ∧ ¬ P (s_L b n q).toInt ∧ t_CS b n (s_E b n q) D (m + 1) (fun x => P x ∨ x = (s_L b n q).toInt) gi9 gl9 gr9 ar0) ∨ (w9.toInt = 0 ∧ ¬ s_isN b n q ∧ t_FL gi9 (ar0 + 1) (s_fk b n q 2) (s_F b n q)) ∨ (w9.toInt = 0 ∧ s_isN b n q ∧ P (s_L b n q).toInt ∧ t_FL gi9 (ar0 + 1) (s_fk b n q 3) (s_F b n q))) ∧ t_xc [ar0, ar0 + 1, ar0 + 19] gi6 g8 gr6 gi9 gl9 gr9 := q9
    replace p_a0 := p_a0.ext hC9.2
    replace p1 := p1.ext hC9.2
    replace p5 := p5.ext hC9.2
    refine ev_if f_X6_readPort (t1 := 64) (t2 := 51) rfl rfl rfl (fun h10 => ?_) (fun h10 => ?_)
    · have u11 : w9.toInt ≤ 0 := t_equ h10 (by decide : (0:Int32).toInt ≤ (0:Int))
      refine ev_ic f_X6_readPort (nx := 65) (v := 0) rfl (by decide) rfl ?_
      exact ev_ret f_X6_readPort rfl rfl rfl ⟨_, _, _, rfl, hI, hX, ⟨_, rfl, (by decide : (0:Int) ≤ (0:Int32).toInt), (Int.le_trans (by decide : (0:Int32).toInt ≤ (0:Int)) (by decide : (0:Int) ≤ 1)), (show (∀ (b : Nat → Int32) (n q : Nat) (D : s_D), t_CN b n q D gi gl gr ar0 → ((0 : Int) = 1 ∧ ∃ q2 D2, s_port b n q D = s_ok q2 D2 ∧ t_CN b n q2 D2 gi9 gl9 gr9 ar0) ∨ ((0 : Int) = 0 ∧ ∃ p x D2, x ≠ 0 ∧ s_port b n q D = s_bad b n p x D2 ∧ t_FL gi9 (ar0 + 1) (s_fk b n p x) (s_F b n p))) ∧ t_lq ar0 gi gl gr gi9 gl9 gr9 from ⟨(by
                                                            intro b n q D h
                                                            have h102 := p_a0.2.1
                                                            have h : t_CS b n q D (D 0 + D 1 + D 2) (s_used D) gi gl gr ar0 := h
                                                            obtain ⟨⟨hb1, hb2⟩, ⟨hb3, hb4⟩, hb5, hb6⟩ := h.2.1.1
                                                            have hp : (gi (ar0 + 2) 0).toInt = D 0 := h.2.1.2.2.1.1
                                                            have h1 := h.on (q6.1 b n _ h.1.S) q6.2.1 q6.2.2
                                                            have h2 := h1.mk (S := [ar0 + 18]) (t_xc.L t_xc.rf (by simp) e8) (by intro x hx; simp only [List.mem_cons, List.not_mem_nil, or_false] at hx; omega) (h1.2.1.pn (p := (gi (ar0 + 2) 0)) hp e8)
                                                            rcases q9.1 b n _ D _ _ h2 (by omega) with hh | hh | hh
                                                            · exact absurd hh.1 (by omega)
                                                            · exact Or.inr ⟨rfl, _, 2, D, by decide, by simp only [s_port, s_name, s_kw, s_ifF (show ¬ D 0 = 6 by omega), s_ifF hh.2.1], hh.2.2⟩
                                                            · exact Or.inr ⟨rfl, _, 3, D, by decide, by simp only [s_port, s_name, s_kw, s_ifF (show ¬ D 0 = 6 by omega), s_ifT hh.2.1, s_ifT hh.2.2.1], hh.2.2.2⟩), (t_lq.ex (t_lq.L (t_lq.on t_lq.rf q6.2.2 (by omega)) (by omega) e8) q9.2 (by intro x hx; simp only [List.mem_cons, List.not_mem_nil, or_false] at hx; omega))⟩)⟩⟩
    · have r12 : w9.toInt ≠ 0 := fun e => h10 (Int32.toInt_inj.mp (e.trans (by decide : (0:Int) = (0 : Int32).toInt)))
      have l13 : 1 ≤ w9.toInt := t_nel h10 l9 rfl rfl
      refine ev_loc f_X6_readPort (nx := 52) rfl rfl rfl rfl ?_
      refine ev_getR f_X6_readPort (nx := 55) (v := .ref (ar0 + 1)) rfl p_a0.1 rfl rfl ((hC9.1 ar0 0 (t_ninO hI.wf p_a0.1 (t_outO hI.wf p_a0.1 rfl) rfl)).2.2.trans ((hC6.1 ar0 0 (t_ninO hI.wf p_a0.1 (t_outO hI.wf p_a0.1 rfl) rfl)).2.2.trans e5)) rfl rfl ?_
      refine ev_heap f_X6_readPort (nx := 58) rfl rfl rfl rfl ?_
      refine ev_qI f_X6_readPort (nx := 61) (r := []) rfl rfl rfl rfl rfl rfl rfl (c_s_takeCalls hI ((ar0 + 1)) p5) rfl hX rfl (fun w14 gi14 gl14 gr14 l14 u14 hI hX hC14 q14 => ?_)
      have q14 : (∀ (b : Nat → Int32) (n q : Nat), t_TC b n q gi9 gl9 gr9 (ar0 + 1) → (w14.toInt = 1 ∧ s_W b n q = some 1 ∧ t_TC b n (s_E b n q) gi14 gl14 gr14 (ar0 + 1) ∧ t_nf gi9 gi14 (ar0 + 1)) ∨ (w14.toInt = 0 ∧ s_W b n q ≠ some 1 ∧ t_FL gi14 (ar0 + 1) (s_fk b n q 2) (s_F b n q))) ∧ t_on (ar0 + 1) gi9 gl9 gr9 gi14 gl14 gr14 := q14
      replace p_a0 := p_a0.ext hC14.2
      replace p1 := p1.ext hC14.2
      replace p5 := p5.ext hC14.2
      refine ev_if f_X6_readPort (t1 := 64) (t2 := 66) rfl rfl rfl (fun h15 => ?_) (fun h15 => ?_)
      · have u16 : w14.toInt ≤ 0 := t_equ h15 (by decide : (0:Int32).toInt ≤ (0:Int))
        refine ev_ic f_X6_readPort (nx := 65) (v := 0) rfl (by decide) rfl ?_
        exact ev_ret f_X6_readPort rfl rfl rfl ⟨_, _, _, rfl, hI, hX, ⟨_, rfl, (by decide : (0:Int) ≤ (0:Int32).toInt), (Int.le_trans (by decide : (0:Int32).toInt ≤ (0:Int)) (by decide : (0:Int) ≤ 1)), (show (∀ (b : Nat → Int32) (n q : Nat) (D : s_D), t_CN b n q D gi gl gr ar0 → ((0 : Int) = 1 ∧ ∃ q2 D2, s_port b n q D = s_ok q2 D2 ∧ t_CN b n q2 D2 gi14 gl14 gr14 ar0) ∨ ((0 : Int) = 0 ∧ ∃ p x D2, x ≠ 0 ∧ s_port b n q D = s_bad b n p x D2 ∧ t_FL gi14 (ar0 + 1) (s_fk b n p x) (s_F b n p))) ∧ t_lq ar0 gi gl gr gi14 gl14 gr14 from ⟨(by
                                                            intro b n q D h
                                                            have h102 := p_a0.2.1
                                                            have h : t_CS b n q D (D 0 + D 1 + D 2) (s_used D) gi gl gr ar0 := h
                                                            obtain ⟨⟨hb1, hb2⟩, ⟨hb3, hb4⟩, hb5, hb6⟩ := h.2.1.1
                                                            have hp : (gi (ar0 + 2) 0).toInt = D 0 := h.2.1.2.2.1.1
                                                            have h1 := h.on (q6.1 b n _ h.1.S) q6.2.1 q6.2.2
                                                            have h2 := h1.mk (S := [ar0 + 18]) (t_xc.L t_xc.rf (by simp) e8) (by intro x hx; simp only [List.mem_cons, List.not_mem_nil, or_false] at hx; omega) (h1.2.1.pn (p := (gi (ar0 + 2) 0)) hp e8)
                                                            obtain ⟨hv9, hN, hU, h3⟩ := (q9.1 b n _ D _ _ h2 (by omega)).resolve_right (fun hh => by rcases hh with hh | hh <;> exact absurd hh.1 (by omega))
                                                            rcases q14.1 b n _ h3.1 with hh | hh
                                                            · exact absurd hh.1 (by omega)
                                                            · exact Or.inr ⟨rfl, _, 2, D, by decide, by simp only [s_port, s_name, s_kw, s_ifF (show ¬ D 0 = 6 by omega), s_ifT hN, s_ifF hU, s_ifF hh.2.1], hh.2.2⟩), (t_lq.on (t_lq.ex (t_lq.L (t_lq.on t_lq.rf q6.2.2 (by omega)) (by omega) e8) q9.2 (by intro x hx; simp only [List.mem_cons, List.not_mem_nil, or_false] at hx; omega)) q14.2 (by omega))⟩)⟩⟩
      · have r17 : w14.toInt ≠ 0 := fun e => h15 (Int32.toInt_inj.mp (e.trans (by decide : (0:Int) = (0 : Int32).toInt)))
        have l18 : 1 ≤ w14.toInt := t_nel h15 l14 rfl rfl
        refine ev_loc f_X6_readPort (nx := 67) rfl rfl rfl rfl ?_
        refine ev_getR f_X6_readPort (nx := 70) (v := .ref (ar0 + 1)) rfl p_a0.1 rfl rfl ((hC14.1 ar0 0 (t_ninO hI.wf p_a0.1 (t_outO hI.wf p_a0.1 rfl) rfl)).2.2.trans ((hC9.1 ar0 0 (t_ninO hI.wf p_a0.1 (t_outO hI.wf p_a0.1 rfl) rfl)).2.2.trans ((hC6.1 ar0 0 (t_ninO hI.wf p_a0.1 (t_outO hI.wf p_a0.1 rfl) rfl)).2.2.trans e5))) rfl rfl ?_
        refine ev_qI0 f_X6_readPort (nx := 73) (r := []) rfl rfl rfl rfl rfl rfl rfl (c_s_isBlasts hI ((ar0 + 1)) p5) rfl (fun w19 l19 u19 q19 => ?_)
        have q19 : ∀ (b : Nat → Int32) (n q : Nat), t_TC b n q gi14 gl14 gr14 (ar0 + 1) → (w19.toInt = 1 ↔ s_isB b n q) := q19
        refine ev_if f_X6_readPort (t1 := 76) (t2 := 85) rfl rfl rfl (fun h20 => ?_) (fun h20 => ?_)
        · have u21 : w19.toInt ≤ 0 := t_equ h20 (by decide : (0:Int32).toInt ≤ (0:Int))
          refine ev_loc f_X6_readPort (nx := 77) rfl rfl rfl rfl ?_
          refine ev_getR f_X6_readPort (nx := 80) (v := .ref (ar0 + 1)) rfl p_a0.1 rfl rfl ((hC14.1 ar0 0 (t_ninO hI.wf p_a0.1 (t_outO hI.wf p_a0.1 rfl) rfl)).2.2.trans ((hC9.1 ar0 0 (t_ninO hI.wf p_a0.1 (t_outO hI.wf p_a0.1 rfl) rfl)).2.2.trans ((hC6.1 ar0 0 (t_ninO hI.wf p_a0.1 (t_outO hI.wf p_a0.1 rfl) rfl)).2.2.trans e5))) rfl rfl ?_
          refine ev_ic f_X6_readPort (nx := 81) (v := 2) rfl (by decide) rfl ?_
          refine ev_qI f_X6_readPort (nx := 84) (r := []) rfl rfl rfl rfl rfl rfl rfl (c_s_refuse hI ((ar0 + 1)) p5 (2) (by decide : (2:Int) ≤ (2:Int32).toInt) (Int.le_trans (by decide : (2:Int32).toInt ≤ (2:Int)) (by decide : (2:Int) ≤ 7))) rfl hX rfl (fun w22 gi22 gl22 gr22 l22 u22 hI hX hC22 q22 => ?_)
          have q22 : (∀ (b : Nat → Int32) (n q : Nat), t_TC b n q gi14 gl14 gr14 (ar0 + 1) → t_FL gi22 (ar0 + 1) (s_fk b n q 2) (s_F b n q)) ∧ w22.toInt = 0 ∧ t_on (ar0 + 1) gi14 gl14 gr14 gi22 gl22 gr22 := q22
          replace p_a0 := p_a0.ext hC22.2
          replace p1 := p1.ext hC22.2
          replace p5 := p5.ext hC22.2
          exact ev_retZ f_X6_readPort rfl l22 (Int.le_trans u22 (by decide : (0:Int) ≤ 1)) ⟨_, _, _, rfl, hI, hX, ⟨_, rfl, l22, (Int.le_trans u22 (by decide : (0:Int) ≤ 1)), (show (∀ (b : Nat → Int32) (n q : Nat) (D : s_D), t_CN b n q D gi gl gr ar0 → (w22.toInt = 1 ∧ ∃ q2 D2, s_port b n q D = s_ok q2 D2 ∧ t_CN b n q2 D2 gi22 gl22 gr22 ar0) ∨ (w22.toInt = 0 ∧ ∃ p x D2, x ≠ 0 ∧ s_port b n q D = s_bad b n p x D2 ∧ t_FL gi22 (ar0 + 1) (s_fk b n p x) (s_F b n p))) ∧ t_lq ar0 gi gl gr gi22 gl22 gr22 from ⟨(by
                                                            intro b n q D h
                                                            have h102 := p_a0.2.1
                                                            have h : t_CS b n q D (D 0 + D 1 + D 2) (s_used D) gi gl gr ar0 := h
                                                            obtain ⟨⟨hb1, hb2⟩, ⟨hb3, hb4⟩, hb5, hb6⟩ := h.2.1.1
                                                            have hp : (gi (ar0 + 2) 0).toInt = D 0 := h.2.1.2.2.1.1
                                                            have h1 := h.on (q6.1 b n _ h.1.S) q6.2.1 q6.2.2
                                                            have h2 := h1.mk (S := [ar0 + 18]) (t_xc.L t_xc.rf (by simp) e8) (by intro x hx; simp only [List.mem_cons, List.not_mem_nil, or_false] at hx; omega) (h1.2.1.pn (p := (gi (ar0 + 2) 0)) hp e8)
                                                            obtain ⟨hv9, hN, hU, h3⟩ := (q9.1 b n _ D _ _ h2 (by omega)).resolve_right (fun hh => by rcases hh with hh | hh <;> exact absurd hh.1 (by omega))
                                                            obtain ⟨hv14, hW14, ht14, hf14⟩ := (q14.1 b n _ h3.1).resolve_right (fun hh => absurd hh.1 (by omega))
                                                            have h4 := h3.on ht14 hf14 q14.2
                                                            have hB : ¬ s_isB b n _ := fun hh => absurd ((q19 b n _ h4.1).mpr hh) (by omega)
                                                            exact Or.inr ⟨q22.2.1, _, 2, D, by decide, by simp only [s_port, s_name, s_kw, s_ifF (show ¬ D 0 = 6 by omega), s_ifT hN, s_ifF hU, s_ifT hW14, s_ifF hB], q22.1 b n _ h4.1⟩), (t_lq.on (t_lq.on (t_lq.ex (t_lq.L (t_lq.on t_lq.rf q6.2.2 (by omega)) (by omega) e8) q9.2 (by intro x hx; simp only [List.mem_cons, List.not_mem_nil, or_false] at hx; omega)) q14.2 (by omega)) q22.2.2 (by omega))⟩)⟩⟩
        · have r23 : w19.toInt ≠ 0 := fun e => h20 (Int32.toInt_inj.mp (e.trans (by decide : (0:Int) = (0 : Int32).toInt)))
          have l24 : 1 ≤ w19.toInt := t_nel h20 l19 rfl rfl
          refine ev_ic f_X6_readPort (nx := 86) (v := 0) rfl (by decide) rfl ?_
          refine ev_loc f_X6_readPort (nx := 87) (lo' := [(2, .int 0), (1, .int (gi (ar0 + 2) 0)), (0, .ref ar0)]) rfl rfl rfl rfl ?_
          have L25 : ∀ (m25 : Nat) (y25_2 : Int32), 0 ≤ y25_2.toInt → y25_2.toInt ≤ 6 → (∀ j : Nat, (j : Int) < y25_2.toInt → gl14 (ar0 + 2 + 1) j ≠ gl14 (ar0 + 1) 6) → (6 - y25_2.toInt).toNat = m25 → x_Ev X (d + 4) n_X6_readPort 87 [(2, .int y25_2), (1, .int (gi (ar0 + 2) 0)), (0, .ref ar0)] [] (sh, gi14, gl14, gr14) (t_PI wl_s_readPort sh gi gl gr 0 1 (Q_s_readPort gi gl gr ar0)) := by
            intro m25
            induction m25 using Nat.strongRecOn with
            | _ m25 ih25 =>
            intro y25_2 l25_2 u25_2 j25_0 hm25
            refine ev_loc f_X6_readPort (nx := 88) rfl rfl rfl rfl ?_
            refine ev_loc f_X6_readPort (nx := 89) rfl rfl rfl rfl ?_
            refine ev_if f_X6_readPort (t1 := 127) (t2 := 92) rfl rfl rfl (fun h26 => ?_) (fun h26 => ?_)
            · have r27 : (gi (ar0 + 2) 0).toInt ≤ y25_2.toInt := Int32.le_iff_toInt_le.mp h26
              refine ev_loc f_X6_readPort (nx := 128) rfl rfl rfl rfl ?_
              refine ev_getR f_X6_readPort (nx := 131) (v := .ref (ar0 + 2)) rfl p_a0.1 rfl rfl ((hC14.1 ar0 1 (t_ninO hI.wf p_a0.1 (t_outO hI.wf p_a0.1 rfl) rfl)).2.2.trans ((hC9.1 ar0 1 (t_ninO hI.wf p_a0.1 (t_outO hI.wf p_a0.1 rfl) rfl)).2.2.trans ((hC6.1 ar0 1 (t_ninO hI.wf p_a0.1 (t_outO hI.wf p_a0.1 rfl) rfl)).2.2.trans e1))) rfl rfl ?_
              have e28 := p1.2.2.1.1
              have p28 := p1.2.2.1.2
              refine ev_getR f_X6_readPort (nx := 134) rfl p1.1 rfl rfl e28 rfl rfl ?_
              refine ev_loc f_X6_readPort (nx := 135) rfl rfl rfl rfl ?_
              refine ev_loc f_X6_readPort (nx := 136) rfl rfl rfl rfl ?_
              refine ev_getR f_X6_readPort (nx := 139) (v := .ref (ar0 + 1)) rfl p_a0.1 rfl rfl ((hC14.1 ar0 0 (t_ninO hI.wf p_a0.1 (t_outO hI.wf p_a0.1 rfl) rfl)).2.2.trans ((hC9.1 ar0 0 (t_ninO hI.wf p_a0.1 (t_outO hI.wf p_a0.1 rfl) rfl)).2.2.trans ((hC6.1 ar0 0 (t_ninO hI.wf p_a0.1 (t_outO hI.wf p_a0.1 rfl) rfl)).2.2.trans e5))) rfl rfl ?_
              refine ev_getL f_X6_readPort (nx := 142) rfl p5.1 rfl rfl rfl ?_
              refine ev_lastT f_X6_readPort (nx := 143) rfl p28 l2 (by decide) u4 (by decide) rfl (hX.upL (t_inOA hI.wf p28 (Or.inr (by have := p1.2.1; omega)) rfl)) (fun g29 e29 hX => ?_)
              refine ev_loc f_X6_readPort (nx := 144) rfl rfl rfl rfl ?_
              refine ev_getR f_X6_readPort (nx := 147) (v := .ref (ar0 + 2)) rfl p_a0.1 rfl rfl ((hC14.1 ar0 1 (t_ninO hI.wf p_a0.1 (t_outO hI.wf p_a0.1 rfl) rfl)).2.2.trans ((hC9.1 ar0 1 (t_ninO hI.wf p_a0.1 (t_outO hI.wf p_a0.1 rfl) rfl)).2.2.trans ((hC6.1 ar0 1 (t_ninO hI.wf p_a0.1 (t_outO hI.wf p_a0.1 rfl) rfl)).2.2.trans e1))) rfl rfl ?_
              have e30 := p1.2.2.2.1.1
              have p30 := p1.2.2.2.1.2
              refine ev_getR f_X6_readPort (nx := 150) rfl p1.1 rfl rfl e30 rfl rfl ?_
              refine ev_loc f_X6_readPort (nx := 151) rfl rfl rfl rfl ?_
              refine ev_loc f_X6_readPort (nx := 152) rfl rfl rfl rfl ?_
              refine ev_getR f_X6_readPort (nx := 155) (v := .ref (ar0 + 1)) rfl p_a0.1 rfl rfl ((hC14.1 ar0 0 (t_ninO hI.wf p_a0.1 (t_outO hI.wf p_a0.1 rfl) rfl)).2.2.trans ((hC9.1 ar0 0 (t_ninO hI.wf p_a0.1 (t_outO hI.wf p_a0.1 rfl) rfl)).2.2.trans ((hC6.1 ar0 0 (t_ninO hI.wf p_a0.1 (t_outO hI.wf p_a0.1 rfl) rfl)).2.2.trans e5))) rfl rfl ?_
              refine ev_getL f_X6_readPort (nx := 158) rfl p5.1 rfl rfl rfl ?_
              refine ev_qL0 f_X6_readPort (nx := 161) (r := [.int (gi (ar0 + 2) 0), .ref (ar0 + 2 + 2)]) rfl rfl rfl rfl rfl rfl rfl (c_s_soundOf hI ((g29 (ar0 + 1) 6))) rfl (fun w31 q31 => ?_)
              have q31 : w31 = s_snd (g29 (ar0 + 1) 6) := q31
              refine ev_lastT f_X6_readPort (nx := 162) rfl p30 l2 (by decide) u4 (by decide) rfl (hX.upL (t_inOA hI.wf p30 (Or.inr (by have := p1.2.1; omega)) rfl)) (fun g32 e32 hX => ?_)
              refine ev_loc f_X6_readPort (nx := 163) rfl rfl rfl rfl ?_
              refine ev_getR f_X6_readPort (nx := 166) (v := .ref (ar0 + 2)) rfl p_a0.1 rfl rfl ((hC14.1 ar0 1 (t_ninO hI.wf p_a0.1 (t_outO hI.wf p_a0.1 rfl) rfl)).2.2.trans ((hC9.1 ar0 1 (t_ninO hI.wf p_a0.1 (t_outO hI.wf p_a0.1 rfl) rfl)).2.2.trans ((hC6.1 ar0 1 (t_ninO hI.wf p_a0.1 (t_outO hI.wf p_a0.1 rfl) rfl)).2.2.trans e1))) rfl rfl ?_
              refine ev_alu f_X6_readPort (nx := 167) rfl rfl rfl rfl ?_
              refine ev_gvI f_X6_readPort (nx := 170) (w := (gi (ar0 + 2) 0)) rfl p1.1 rfl rfl ((hC14.1 (ar0 + 2) 0 (t_ninO hI.wf p1.1 (t_outO hI.wf p1.1 rfl) rfl)).1.trans ((hC9.1 (ar0 + 2) 0 (t_ninO hI.wf p1.1 (t_outO hI.wf p1.1 rfl) rfl)).1.trans ((hC6.1 (ar0 + 2) 0 (t_ninO hI.wf p1.1 (t_outO hI.wf p1.1 rfl) rfl)).1.trans rfl))) rfl ?_
              refine ev_ic f_X6_readPort (nx := 171) (v := 1) rfl (by decide) rfl ?_
              refine ev_addC f_X6_readPort (nx := 172) (c := 1) (l := 1) (u := 6) rfl (by decide) l2 u4 rfl rfl (by decide) (by decide) rfl (fun z33 e33 l33 u33 => ?_)
              refine ev_putIT f_X6_readPort (nx := 175) rfl p1.1 rfl rfl rfl (hI.putB p1.1 rfl rfl l33 (by decide) u33 (by decide)) (hX.upI (t_inO hI.wf p1.1 (t_outO hI.wf p1.1 rfl) rfl)) (fun g34 e34 hI hX => ?_)
              refine ev_loc f_X6_readPort (nx := 176) rfl rfl rfl rfl ?_
              refine ev_getR f_X6_readPort (nx := 179) (v := .ref (ar0 + 1)) rfl p_a0.1 rfl rfl ((hC14.1 ar0 0 (t_ninO hI.wf p_a0.1 (t_outO hI.wf p_a0.1 rfl) rfl)).2.2.trans ((hC9.1 ar0 0 (t_ninO hI.wf p_a0.1 (t_outO hI.wf p_a0.1 rfl) rfl)).2.2.trans ((hC6.1 ar0 0 (t_ninO hI.wf p_a0.1 (t_outO hI.wf p_a0.1 rfl) rfl)).2.2.trans e5))) rfl rfl ?_
              refine ev_qN f_X6_readPort (nx := 182) (r := []) rfl rfl rfl rfl rfl rfl rfl (c_s_step hI ((ar0 + 1)) p5) rfl hX rfl (fun gi35 gl35 gr35 hI hX hC35 q35 => ?_)
              have q35 : (∀ (b : Nat → Int32) (n q : Nat), t_Sp b n q g34 (ar0 + 1) → t_TC b n q gi35 gl35 gr35 (ar0 + 1)) ∧ t_nf g34 gi35 (ar0 + 1) ∧ t_on (ar0 + 1) g34 g32 gr14 gi35 gl35 gr35 := q35
              replace p_a0 := p_a0.ext hC35.2
              replace p1 := p1.ext hC35.2
              replace p5 := p5.ext hC35.2
              refine ev_ic f_X6_readPort (nx := 183) (v := 1) rfl (by decide) rfl ?_
              exact ev_ret f_X6_readPort rfl rfl rfl ⟨_, _, _, rfl, hI, hX, ⟨_, rfl, (Int.le_trans (by decide : (0:Int) ≤ 1) (by decide : (1:Int) ≤ (1:Int32).toInt)), (by decide : (1:Int32).toInt ≤ (1:Int)), (show (∀ (b : Nat → Int32) (n q : Nat) (D : s_D), t_CN b n q D gi gl gr ar0 → ((1 : Int) = 1 ∧ ∃ q2 D2, s_port b n q D = s_ok q2 D2 ∧ t_CN b n q2 D2 gi35 gl35 gr35 ar0) ∨ ((1 : Int) = 0 ∧ ∃ p x D2, x ≠ 0 ∧ s_port b n q D = s_bad b n p x D2 ∧ t_FL gi35 (ar0 + 1) (s_fk b n p x) (s_F b n p))) ∧ t_lq ar0 gi gl gr gi35 gl35 gr35 from ⟨(by
                                                            intro b n q D h
                                                            have h102 := p_a0.2.1
                                                            have h : t_CS b n q D (D 0 + D 1 + D 2) (s_used D) gi gl gr ar0 := h
                                                            obtain ⟨⟨hb1, hb2⟩, ⟨hb3, hb4⟩, hb5, hb6⟩ := h.2.1.1
                                                            have hp : (gi (ar0 + 2) 0).toInt = D 0 := h.2.1.2.2.1.1
                                                            have h1 := h.on (q6.1 b n _ h.1.S) q6.2.1 q6.2.2
                                                            have h2 := h1.mk (S := [ar0 + 18]) (t_xc.L t_xc.rf (by simp) e8) (by intro x hx; simp only [List.mem_cons, List.not_mem_nil, or_false] at hx; omega) (h1.2.1.pn (p := (gi (ar0 + 2) 0)) hp e8)
                                                            obtain ⟨hv9, hN, hU, h3⟩ := (q9.1 b n _ D _ _ h2 (by omega)).resolve_right (fun hh => by rcases hh with hh | hh <;> exact absurd hh.1 (by omega))
                                                            obtain ⟨hv14, hW14, ht14, hf14⟩ := (q14.1 b n _ h3.1).resolve_right (fun hh => absurd hh.1 (by omega))
                                                            have h4 := h3.on ht14 hf14 q14.2
                                                            have hB := (q19 b n _ h4.1).mp (by omega)
                                                            have hL : (gl14 (ar0 + 1) 6) = s_L b n _ := (h4.1.2.2.2.2.2.1 hB.1.1).2
                                                            have hx : ¬ ∃ i : Nat, (i : Int) < D 0 ∧ D (10 + i) = (s_L b n (s_E b n (s_E b n (s_E b n q)))).toInt := fun ⟨i, hi, hh⟩ => j25_0 i (by omega) (Int64.toInt_inj.mp (by rw [(h4.2.1.2.2.1.2 i hi).2.1, hh, hL]))
                                                            have hn : (gl14 (ar0 + 18) (gi (ar0 + 2) 0).toNatClampNeg).toInt = (s_L b n (s_E b n q)).toInt := by rw [(q14.2 (ar0 + 18) (by omega)).2.1, (q9.2 (ar0 + 18) (by intro x hx; simp only [List.mem_cons, List.not_mem_nil, or_false] at hx; omega)).2.1, e8, x_up2_at]; exact congrArg Int64.toInt (h1.1.2.2.2.2.2.1 hN.1).2
                                                            have hR := h4.2.1.port (p := (gi (ar0 + 2) 0)) hp (by omega) hn (by rw [q31, e29, x_up2_ne (by omega)]) (z := z33) (by omega) e29 e32 e34
                                                            rw [hL] at hR
                                                            have hR2 := hR.pto h.2.1.1 (by omega)
                                                            have h5 := h4.mk (S := [ar0 + 2, ar0 + 2 + 1, ar0 + 2 + 2]) (t_xc.I (t_xc.L (t_xc.L t_xc.rf (by simp) e29) (by simp) e32) (by simp) e34) (by intro x hx; simp only [List.mem_cons, List.not_mem_nil, or_false] at hx; omega) hR2
                                                            have h6 := h5.on (q35.1 b n _ h5.1.S) q35.2.1 q35.2.2
                                                            exact Or.inl ⟨rfl, _, _, by simp only [s_port, s_name, s_kw, s_ifF (show ¬ D 0 = 6 by omega), s_ifT hN, s_ifF hU, s_ifT hW14, s_ifT hB, s_ifF hx], h6⟩), (t_lq.on (t_lq.I (t_lq.L (t_lq.L (t_lq.on (t_lq.ex (t_lq.L (t_lq.on t_lq.rf q6.2.2 (by omega)) (by omega) e8) q9.2 (by intro x hx; simp only [List.mem_cons, List.not_mem_nil, or_false] at hx; omega)) q14.2 (by omega)) (by omega) e29) (by omega) e32) (by omega) e34) q35.2.2 (by omega))⟩)⟩⟩
            · have r36 : y25_2.toInt < (gi (ar0 + 2) 0).toInt := Int32.lt_iff_toInt_lt.mp (t_nle h26)
              have u37 : y25_2.toInt ≤ 4 := t_ltu (t_nle h26) u4 rfl
              have l38 : 1 ≤ (gi (ar0 + 2) 0).toInt := t_ltl (t_nle h26) l25_2 rfl
              refine ev_loc f_X6_readPort (nx := 93) rfl rfl rfl rfl ?_
              refine ev_getR f_X6_readPort (nx := 96) (v := .ref (ar0 + 2)) rfl p_a0.1 rfl rfl ((hC14.1 ar0 1 (t_ninO hI.wf p_a0.1 (t_outO hI.wf p_a0.1 rfl) rfl)).2.2.trans ((hC9.1 ar0 1 (t_ninO hI.wf p_a0.1 (t_outO hI.wf p_a0.1 rfl) rfl)).2.2.trans ((hC6.1 ar0 1 (t_ninO hI.wf p_a0.1 (t_outO hI.wf p_a0.1 rfl) rfl)).2.2.trans e1))) rfl rfl ?_
              have e39 := p1.2.2.1.1
              have p39 := p1.2.2.1.2
              refine ev_getR f_X6_readPort (nx := 99) rfl p1.1 rfl rfl e39 rfl rfl ?_
              refine ev_loc f_X6_readPort (nx := 100) rfl rfl rfl rfl ?_
              refine ev_laldT f_X6_readPort (nx := 101) rfl p39 l25_2 (by decide) u37 (by decide) rfl (fun w40 e40 => ?_)
              refine ev_loc f_X6_readPort (nx := 102) rfl rfl rfl rfl ?_
              refine ev_getR f_X6_readPort (nx := 105) (v := .ref (ar0 + 1)) rfl p_a0.1 rfl rfl ((hC14.1 ar0 0 (t_ninO hI.wf p_a0.1 (t_outO hI.wf p_a0.1 rfl) rfl)).2.2.trans ((hC9.1 ar0 0 (t_ninO hI.wf p_a0.1 (t_outO hI.wf p_a0.1 rfl) rfl)).2.2.trans ((hC6.1 ar0 0 (t_ninO hI.wf p_a0.1 (t_outO hI.wf p_a0.1 rfl) rfl)).2.2.trans e5))) rfl rfl ?_
              refine ev_getL f_X6_readPort (nx := 108) rfl p5.1 rfl rfl rfl ?_
              refine ev_anyIE f_X6_readPort (nx := 109) rfl rfl rfl rfl (fun z41 e41 => ?_)
              refine ev_if f_X6_readPort (t1 := 112) (t2 := 121) rfl rfl rfl (fun h42 => ?_) (fun h42 => ?_)
              · have u43 : z41.toInt ≤ 0 := t_equ h42 (by decide : (0:Int32).toInt ≤ (0:Int))
                have l44 : 0 ≤ z41.toInt := t_eql h42 (by decide : (0:Int) ≤ (0:Int32).toInt)
                refine ev_loc f_X6_readPort (nx := 113) rfl rfl rfl rfl ?_
                refine ev_getR f_X6_readPort (nx := 116) (v := .ref (ar0 + 1)) rfl p_a0.1 rfl rfl ((hC14.1 ar0 0 (t_ninO hI.wf p_a0.1 (t_outO hI.wf p_a0.1 rfl) rfl)).2.2.trans ((hC9.1 ar0 0 (t_ninO hI.wf p_a0.1 (t_outO hI.wf p_a0.1 rfl) rfl)).2.2.trans ((hC6.1 ar0 0 (t_ninO hI.wf p_a0.1 (t_outO hI.wf p_a0.1 rfl) rfl)).2.2.trans e5))) rfl rfl ?_
                refine ev_ic f_X6_readPort (nx := 117) (v := 5) rfl (by decide) rfl ?_
                refine ev_qI f_X6_readPort (nx := 120) (r := []) rfl rfl rfl rfl rfl rfl rfl (c_s_refuse hI ((ar0 + 1)) p5 (5) (Int.le_trans (by decide : (2:Int) ≤ 5) (by decide : (5:Int) ≤ (5:Int32).toInt)) (Int.le_trans (by decide : (5:Int32).toInt ≤ (5:Int)) (by decide : (5:Int) ≤ 7))) rfl hX rfl (fun w45 gi45 gl45 gr45 l45 u45 hI hX hC45 q45 => ?_)
                have q45 : (∀ (b : Nat → Int32) (n q : Nat), t_TC b n q gi14 gl14 gr14 (ar0 + 1) → t_FL gi45 (ar0 + 1) (s_fk b n q 5) (s_F b n q)) ∧ w45.toInt = 0 ∧ t_on (ar0 + 1) gi14 gl14 gr14 gi45 gl45 gr45 := q45
                replace p_a0 := p_a0.ext hC45.2
                replace p1 := p1.ext hC45.2
                replace p5 := p5.ext hC45.2
                exact ev_retZ f_X6_readPort rfl l45 (Int.le_trans u45 (by decide : (0:Int) ≤ 1)) ⟨_, _, _, rfl, hI, hX, ⟨_, rfl, l45, (Int.le_trans u45 (by decide : (0:Int) ≤ 1)), (show (∀ (b : Nat → Int32) (n q : Nat) (D : s_D), t_CN b n q D gi gl gr ar0 → (w45.toInt = 1 ∧ ∃ q2 D2, s_port b n q D = s_ok q2 D2 ∧ t_CN b n q2 D2 gi45 gl45 gr45 ar0) ∨ (w45.toInt = 0 ∧ ∃ p x D2, x ≠ 0 ∧ s_port b n q D = s_bad b n p x D2 ∧ t_FL gi45 (ar0 + 1) (s_fk b n p x) (s_F b n p))) ∧ t_lq ar0 gi gl gr gi45 gl45 gr45 from ⟨(by
                                                            intro b n q D h
                                                            have h102 := p_a0.2.1
                                                            have h : t_CS b n q D (D 0 + D 1 + D 2) (s_used D) gi gl gr ar0 := h
                                                            obtain ⟨⟨hb1, hb2⟩, ⟨hb3, hb4⟩, hb5, hb6⟩ := h.2.1.1
                                                            have hp : (gi (ar0 + 2) 0).toInt = D 0 := h.2.1.2.2.1.1
                                                            have h1 := h.on (q6.1 b n _ h.1.S) q6.2.1 q6.2.2
                                                            have h2 := h1.mk (S := [ar0 + 18]) (t_xc.L t_xc.rf (by simp) e8) (by intro x hx; simp only [List.mem_cons, List.not_mem_nil, or_false] at hx; omega) (h1.2.1.pn (p := (gi (ar0 + 2) 0)) hp e8)
                                                            obtain ⟨hv9, hN, hU, h3⟩ := (q9.1 b n _ D _ _ h2 (by omega)).resolve_right (fun hh => by rcases hh with hh | hh <;> exact absurd hh.1 (by omega))
                                                            obtain ⟨hv14, hW14, ht14, hf14⟩ := (q14.1 b n _ h3.1).resolve_right (fun hh => absurd hh.1 (by omega))
                                                            have h4 := h3.on ht14 hf14 q14.2
                                                            have hB := (q19 b n _ h4.1).mp (by omega)
                                                            have hL : (gl14 (ar0 + 1) 6) = s_L b n _ := (h4.1.2.2.2.2.2.1 hB.1.1).2
                                                            have hx : ∃ i : Nat, (i : Int) < D 0 ∧ D (10 + i) = (s_L b n (s_E b n (s_E b n (s_E b n q)))).toInt := ⟨y25_2.toNatClampNeg, by have h1 := t_clamp (i := y25_2) (by omega); omega, by rw [← hL, ← (h4.2.1.2.2.1.2 _ (by have h1 := t_clamp (i := y25_2) (by omega); omega)).2.1, ← e40]; exact congrArg Int64.toInt ((lg_cmp_eq _ _).mp (e41.symm.trans h42))⟩
                                                            exact Or.inr ⟨q45.2.1, _, 5, D, by decide, by simp only [s_port, s_name, s_kw, s_ifF (show ¬ D 0 = 6 by omega), s_ifT hN, s_ifF hU, s_ifT hW14, s_ifT hB, s_ifT hx], q45.1 b n _ h4.1⟩), (t_lq.on (t_lq.on (t_lq.ex (t_lq.L (t_lq.on t_lq.rf q6.2.2 (by omega)) (by omega) e8) q9.2 (by intro x hx; simp only [List.mem_cons, List.not_mem_nil, or_false] at hx; omega)) q14.2 (by omega)) q45.2.2 (by omega))⟩)⟩⟩
              · have r46 : z41.toInt ≠ 0 := fun e => h42 (Int32.toInt_inj.mp (e.trans (by decide : (0:Int) = (0 : Int32).toInt)))
                refine ev_incR f_X6_readPort (nx := 124) (c := 1) (l := 1) (u := 5) rfl rfl (by decide) (by decide) l25_2 u37 rfl rfl (by decide) (by decide) rfl (fun z47 e47 l47 u47 => ?_)
                refine ev_jmp f_X6_readPort (nx := 87) rfl rfl rfl ?_
                refine ev_sub (lo := [(2, .int z47), (1, .int (gi (ar0 + 2) 0)), (0, .ref ar0)]) rfl (t_sc rfl (t_sc rfl (t_sc rfl t_sn))) ?_
                exact ih25 _ (by omega) (z47) (Int.le_trans (by decide : (0:Int) ≤ 1) l47) (Int.le_trans u47 (by decide : (5:Int) ≤ 6)) (fun j hj hx => by by_cases hji : j = y25_2.toNatClampNeg; (exact h42 (e41.trans ((lg_cmp_eq _ _).mpr (by rw [e40, ← hji]; exact hx)))); (exact j25_0 j (by have h1 := t_clamp (i := y25_2) (by omega); omega) hx)) rfl
          refine ev_sub (lo := [(2, .int 0), (1, .int (gi (ar0 + 2) 0)), (0, .ref ar0)]) rfl (t_sc rfl (t_sc rfl (t_sc rfl t_sn))) ?_
          exact L25 _ (0) (by decide : (0:Int) ≤ (0:Int32).toInt) (Int.le_trans (by decide : (0:Int32).toInt ≤ (0:Int)) (by decide : (0:Int) ≤ 6)) (fun j hj => absurd hj (by have : (0 : Int32).toInt = 0 := rfl; omega)) rfl
  · have l48 : 6 ≤ (gi (ar0 + 2) 0).toInt := t_lel (t_nlt h3) (by decide : (6:Int) ≤ (6:Int32).toInt)
    refine ev_loc f_X6_readPort (nx := 15) rfl rfl rfl rfl ?_
    have e49 := p_a0.2.2.2.2.1.1
    have p49 := p_a0.2.2.2.2.1.2
    refine ev_getR f_X6_readPort (nx := 18) rfl p_a0.1 rfl rfl e49 rfl rfl ?_
    refine ev_bp f_X6_readPort (nx := 20) (v := 6) rfl (by decide) rfl ?_
    refine ev_qI f_X6_readPort (nx := 23) (r := []) rfl rfl rfl rfl rfl rfl rfl (c_s_refuse hI ((ar0 + 1)) p49 (6) (Int.le_trans (by decide : (2:Int) ≤ 6) (by decide : (6:Int) ≤ (6:Int32).toInt)) (Int.le_trans (by decide : (6:Int32).toInt ≤ (6:Int)) (by decide : (6:Int) ≤ 7))) rfl hX rfl (fun w50 gi50 gl50 gr50 l50 u50 hI hX hC50 q50 => ?_)
    have q50 : (∀ (b : Nat → Int32) (n q : Nat), t_TC b n q gi gl gr (ar0 + 1) → t_FL gi50 (ar0 + 1) (s_fk b n q 6) (s_F b n q)) ∧ w50.toInt = 0 ∧ t_on (ar0 + 1) gi gl gr gi50 gl50 gr50 := q50
    replace p_a0 := p_a0.ext hC50.2
    replace p1 := p1.ext hC50.2
    replace p49 := p49.ext hC50.2
    exact ev_retZ f_X6_readPort rfl l50 (Int.le_trans u50 (by decide : (0:Int) ≤ 1)) ⟨_, _, _, rfl, hI, hX, ⟨_, rfl, l50, (Int.le_trans u50 (by decide : (0:Int) ≤ 1)), (show (∀ (b : Nat → Int32) (n q : Nat) (D : s_D), t_CN b n q D gi gl gr ar0 → (w50.toInt = 1 ∧ ∃ q2 D2, s_port b n q D = s_ok q2 D2 ∧ t_CN b n q2 D2 gi50 gl50 gr50 ar0) ∨ (w50.toInt = 0 ∧ ∃ p x D2, x ≠ 0 ∧ s_port b n q D = s_bad b n p x D2 ∧ t_FL gi50 (ar0 + 1) (s_fk b n p x) (s_F b n p))) ∧ t_lq ar0 gi gl gr gi50 gl50 gr50 from ⟨(by
                                                            intro b n q D h
                                                            have h102 := p_a0.2.1
                                                            have h : t_CS b n q D (D 0 + D 1 + D 2) (s_used D) gi gl gr ar0 := h
                                                            obtain ⟨⟨hb1, hb2⟩, ⟨hb3, hb4⟩, hb5, hb6⟩ := h.2.1.1
                                                            have hp : (gi (ar0 + 2) 0).toInt = D 0 := h.2.1.2.2.1.1
                                                            exact Or.inr ⟨q50.2.1, _, 6, D, by decide, by simp only [s_port, s_ifT (show D 0 = 6 by omega)], q50.1 b n q h.1⟩), (t_lq.on t_lq.rf q50.2.2 (by omega))⟩)⟩⟩
noncomputable def wl_s_put : List (Nat × Nat) := [(7, 9999), (8, 9999), (9, 9999), (10, 9999), (11, 9999), (12, 9999), (14, 9999), (15, 9999), (16, 9999), (17, 9999), (18, 9999), (30, 9999), (31, 9999), (32, 9999), (33, 9999), (34, 9999), (36, 9999), (37, 9999), (38, 9999), (39, 9999), (40, 9999), (43, 9999), (44, 9999), (47, 9999), (48, 9999), (49, 9999), (50, 9999), (51, 9999), (53, 9999), (54, 9999), (55, 9999), (56, 9999), (57, 9999), (58, 9999), (59, 9999), (130, 9999), (133, 9999)]
noncomputable def Q_s_put (gi : Nat → Nat → Int32) (gl : Nat → Nat → Int64) (gr : Nat → Nat → Value) (ar0 : Nat) (ar1 : Int32) (ar2 : Int32) (ar3 : Int32) (ar4 : Int32) (ar5 : Int32) (ar6 : Int32) : (Nat → Nat → Int32) → (Nat → Nat → Int64) → (Nat → Nat → Value) → Prop := fun (gi2 : Nat → Nat → Int32) (gl2 : Nat → Nat → Int64) (gr2 : Nat → Nat → Value) => ((ar1.toInt < 0 ∨ 6 ≤ ar1.toInt) → gi2 = gi) ∧ ((0 ≤ ar1.toInt ∧ ar1.toInt < 6) → gi2 = x_up2 (x_up2 (x_up2 (x_up2 (x_up2 (gi) (ar0 + 1) ar1.toNatClampNeg ar2) (ar0 + 2) ar1.toNatClampNeg ar3) (ar0 + 3) ar1.toNatClampNeg ar4) (ar0 + 4) ar1.toNatClampNeg ar5) (ar0 + 5) ar1.toNatClampNeg ar6) ∧ gl2 = gl ∧ gr2 = gr
theorem c_s_put {X : x_Ext} {d : Nat} {sh : List (Nat ⊕ (Nat × Nat))} {gi : Nat → Nat → Int32} {gl : Nat → Nat → Int64} {gr : Nat → Nat → Value} (hI : t_I sh gi gr) (ar0 : Nat) (p_a0 : t_LQ sh gr ar0) (ar1 : Int32) (ar2 : Int32) (ar3 : Int32) (ar4 : Int32) (ar5 : Int32) (ar6 : Int32) (l_a6 : 0 ≤ ar6.toInt) (u_a6 : ar6.toInt ≤ 1) : x_Me X (d + 1) n_X4_put [.ref ar0, .int ar1, .int ar2, .int ar3, .int ar4, .int ar5, .int ar6] (sh, gi, gl, gr) (t_PN wl_s_put sh gi gl gr (Q_s_put gi gl gr ar0 ar1 ar2 ar3 ar4 ar5 ar6)) := by
  have hX : t_X wl_s_put sh gi gl gr gi gl gr := t_X.rf
  refine me_i f_X4_put p_a0.1 rfl rfl rfl ?_
  refine ev_loc f_X4_put (nx := 1) rfl rfl rfl rfl ?_
  refine ev_if f_X4_put (t1 := 10) (t2 := 4) rfl rfl rfl (fun h1 => ?_) (fun h1 => ?_)
  · have u2 : ar1.toInt ≤ (-1) := t_ltu h1 (by decide : (0:Int32).toInt ≤ (0:Int)) rfl
    exact ev_ret f_X4_put rfl rfl rfl ⟨_, _, _, rfl, hI, hX, ⟨rfl, (show ((ar1.toInt < 0 ∨ 6 ≤ ar1.toInt) → gi = gi) ∧ ((0 ≤ ar1.toInt ∧ ar1.toInt < 6) → gi = x_up2 (x_up2 (x_up2 (x_up2 (x_up2 (gi) (ar0 + 1) ar1.toNatClampNeg ar2) (ar0 + 2) ar1.toNatClampNeg ar3) (ar0 + 3) ar1.toNatClampNeg ar4) (ar0 + 4) ar1.toNatClampNeg ar5) (ar0 + 5) ar1.toNatClampNeg ar6) ∧ gl = gl ∧ gr = gr from ⟨fun _ => rfl, fun hh => absurd hh (by omega), rfl, rfl⟩)⟩⟩
  · have l3 : 0 ≤ ar1.toInt := t_lel (t_nlt h1) (by decide : (0:Int) ≤ (0:Int32).toInt)
    refine ev_loc f_X4_put (nx := 5) rfl rfl rfl rfl ?_
    refine ev_bp f_X4_put (nx := 7) (v := 6) rfl (by decide) rfl ?_
    refine ev_if f_X4_put (t1 := 11) (t2 := 10) rfl rfl rfl (fun h4 => ?_) (fun h4 => ?_)
    · have u5 : ar1.toInt ≤ 5 := t_ltu h4 (by decide : (6:Int32).toInt ≤ (6:Int)) rfl
      refine ev_loc f_X4_put (nx := 12) rfl rfl rfl rfl ?_
      have e6 := p_a0.2.2.1.1
      have p6 := p_a0.2.2.1.2
      refine ev_getR f_X4_put (nx := 15) rfl p_a0.1 rfl rfl e6 rfl rfl ?_
      refine ev_loc f_X4_put (nx := 16) rfl rfl rfl rfl ?_
      refine ev_loc f_X4_put (nx := 17) rfl rfl rfl rfl ?_
      refine ev_iastT f_X4_put (nx := 18) rfl p6 l3 (by decide) u5 (by decide) rfl (hI.astO p6 (Or.inr (by have := p_a0.2.1; omega)) (by decide +kernel)) (hX.upI (t_inOA hI.wf p6 (Or.inr (by have := p_a0.2.1; omega)) rfl)) (fun g7 e7 hI hX => ?_)
      refine ev_loc f_X4_put (nx := 19) rfl rfl rfl rfl ?_
      have e8 := p_a0.2.2.2.1.1
      have p8 := p_a0.2.2.2.1.2
      refine ev_getR f_X4_put (nx := 22) rfl p_a0.1 rfl rfl e8 rfl rfl ?_
      refine ev_loc f_X4_put (nx := 23) rfl rfl rfl rfl ?_
      refine ev_loc f_X4_put (nx := 24) rfl rfl rfl rfl ?_
      refine ev_iastT f_X4_put (nx := 25) rfl p8 l3 (by decide) u5 (by decide) rfl (hI.astO p8 (Or.inr (by have := p_a0.2.1; omega)) (by decide +kernel)) (hX.upI (t_inOA hI.wf p8 (Or.inr (by have := p_a0.2.1; omega)) rfl)) (fun g9 e9 hI hX => ?_)
      refine ev_loc f_X4_put (nx := 26) rfl rfl rfl rfl ?_
      have e10 := p_a0.2.2.2.2.1.1
      have p10 := p_a0.2.2.2.2.1.2
      refine ev_getR f_X4_put (nx := 29) rfl p_a0.1 rfl rfl e10 rfl rfl ?_
      refine ev_loc f_X4_put (nx := 30) rfl rfl rfl rfl ?_
      refine ev_loc f_X4_put (nx := 32) rfl rfl rfl rfl ?_
      refine ev_iastT f_X4_put (nx := 33) rfl p10 l3 (by decide) u5 (by decide) rfl (hI.astO p10 (Or.inr (by have := p_a0.2.1; omega)) (by decide +kernel)) (hX.upI (t_inOA hI.wf p10 (Or.inr (by have := p_a0.2.1; omega)) rfl)) (fun g11 e11 hI hX => ?_)
      refine ev_loc f_X4_put (nx := 34) rfl rfl rfl rfl ?_
      have e12 := p_a0.2.2.2.2.2.1.1
      have p12 := p_a0.2.2.2.2.2.1.2
      refine ev_getR f_X4_put (nx := 37) rfl p_a0.1 rfl rfl e12 rfl rfl ?_
      refine ev_loc f_X4_put (nx := 38) rfl rfl rfl rfl ?_
      refine ev_loc f_X4_put (nx := 40) rfl rfl rfl rfl ?_
      refine ev_iastT f_X4_put (nx := 41) rfl p12 l3 (by decide) u5 (by decide) rfl (hI.astO p12 (Or.inr (by have := p_a0.2.1; omega)) (by decide +kernel)) (hX.upI (t_inOA hI.wf p12 (Or.inr (by have := p_a0.2.1; omega)) rfl)) (fun g13 e13 hI hX => ?_)
      refine ev_loc f_X4_put (nx := 42) rfl rfl rfl rfl ?_
      have e14 := p_a0.2.2.2.2.2.2.1
      have p14 := p_a0.2.2.2.2.2.2.2
      refine ev_getR f_X4_put (nx := 45) rfl p_a0.1 rfl rfl e14 rfl rfl ?_
      refine ev_loc f_X4_put (nx := 46) rfl rfl rfl rfl ?_
      refine ev_loc f_X4_put (nx := 48) rfl rfl rfl rfl ?_
      refine ev_zastV f_X4_put (nx := 49) rfl p14 l3 (by decide) u5 (by decide) l_a6 u_a6 rfl (fun x _ _ => (hI.astO p14 (Or.inr (by have := p_a0.2.1; omega)) (by decide +kernel))) (fun x => hX.upI (t_inOA hI.wf p14 (Or.inr (by have := p_a0.2.1; omega)) rfl)) (fun g15 e15 hI hX => ?_)
      exact ev_ret f_X4_put rfl rfl rfl ⟨_, _, _, rfl, hI, hX, ⟨rfl, (show ((ar1.toInt < 0 ∨ 6 ≤ ar1.toInt) → g15 = gi) ∧ ((0 ≤ ar1.toInt ∧ ar1.toInt < 6) → g15 = x_up2 (x_up2 (x_up2 (x_up2 (x_up2 (gi) (ar0 + 1) ar1.toNatClampNeg ar2) (ar0 + 2) ar1.toNatClampNeg ar3) (ar0 + 3) ar1.toNatClampNeg ar4) (ar0 + 4) ar1.toNatClampNeg ar5) (ar0 + 5) ar1.toNatClampNeg ar6) ∧ gl = gl ∧ gr = gr from ⟨fun hh => absurd hh (by omega), fun _ => (by rw [e15, e13, e11, e9, e7]), rfl, rfl⟩)⟩⟩
    · have l16 : 6 ≤ ar1.toInt := t_lel (t_nlt h4) (by decide : (6:Int) ≤ (6:Int32).toInt)
      exact ev_ret f_X4_put rfl rfl rfl ⟨_, _, _, rfl, hI, hX, ⟨rfl, (show ((ar1.toInt < 0 ∨ 6 ≤ ar1.toInt) → gi = gi) ∧ ((0 ≤ ar1.toInt ∧ ar1.toInt < 6) → gi = x_up2 (x_up2 (x_up2 (x_up2 (x_up2 (gi) (ar0 + 1) ar1.toNatClampNeg ar2) (ar0 + 2) ar1.toNatClampNeg ar3) (ar0 + 3) ar1.toNatClampNeg ar4) (ar0 + 4) ar1.toNatClampNeg ar5) (ar0 + 5) ar1.toNatClampNeg ar6) ∧ gl = gl ∧ gr = gr from ⟨fun _ => rfl, fun hh => absurd hh (by omega), rfl, rfl⟩)⟩⟩
noncomputable def wl_s_readComing : List (Nat × Nat) := [(6, 0), (7, 9999), (8, 9999), (9, 9999), (10, 9999), (11, 9999), (12, 9999), (13, 0), (14, 9999), (15, 9999), (16, 9999), (17, 9999), (18, 9999), (29, 0), (30, 9999), (31, 9999), (32, 9999), (33, 9999), (34, 9999), (35, 0), (36, 9999), (37, 9999), (38, 9999), (39, 9999), (40, 9999), (43, 9999), (44, 9999), (46, 0), (47, 9999), (48, 9999), (49, 9999), (50, 9999), (51, 9999), (52, 0), (53, 9999), (54, 9999), (55, 9999), (56, 9999), (57, 9999), (58, 9999), (59, 9999), (113, 0), (118, 2), (118, 3), (118, 4), (118, 5), (118, 6), (118, 7), (118, 8), (118, 9), (118, 10), (118, 11), (130, 9999), (133, 9999)]
noncomputable def Q_s_readComing (gi : Nat → Nat → Int32) (gl : Nat → Nat → Int64) (gr : Nat → Nat → Value) (ar0 : Nat) (ar1 : Nat) : Int32 → (Nat → Nat → Int32) → (Nat → Nat → Int64) → (Nat → Nat → Value) → Prop := fun (v : Int32) (gi2 : Nat → Nat → Int32) (gl2 : Nat → Nat → Int64) (gr2 : Nat → Nat → Value) => (∀ (b : Nat → Int32) (n q : Nat) (D : s_D), t_TC b n q gi gl gr (ar0 + 1) → t_FL gi (ar0 + 1) 0 (-1) → (v.toInt = 1 ∧ ∃ q2 x y z, (∀ K, s_come b n q D K = K q2 x y z) ∧ t_TC b n q2 gi2 gl2 gr2 (ar0 + 1) ∧ t_FL gi2 (ar0 + 1) 0 (-1) ∧ (gi2 ar1 0).toInt = (gi ar1 0).toInt + 1 ∧ t_ru (gi (ar1 + 2)) (gi2 (ar1 + 2)) (gi ar1 0).toNatClampNeg x ∧ t_ru (gi (ar1 + 3)) (gi2 (ar1 + 3)) (gi ar1 0).toNatClampNeg y ∧ t_ru (gi (ar1 + 4)) (gi2 (ar1 + 4)) (gi ar1 0).toNatClampNeg z ∧ t_ru (gi (ar1 + 5)) (gi2 (ar1 + 5)) (gi ar1 0).toNatClampNeg 0) ∨ (v.toInt = 0 ∧ ∃ p x, x ≠ 0 ∧ (∀ K, s_come b n q D K = s_bad b n p x D) ∧ t_FL gi2 (ar0 + 1) (s_fk b n p x) (s_F b n p))) ∧ t_xc [ar0 + 1, ar1, ar1 + 1, ar1 + 2, ar1 + 3, ar1 + 4, ar1 + 5] gi gl gr gi2 gl2 gr2
theorem c_s_readComing {X : x_Ext} {d : Nat} {sh : List (Nat ⊕ (Nat × Nat))} {gi : Nat → Nat → Int32} {gl : Nat → Nat → Int64} {gr : Nat → Nat → Value} (hI : t_I sh gi gr) (ar0 : Nat) (p_a0 : t_RQ sh gr ar0) (ar1 : Nat) (p_a1 : t_LQ sh gr ar1) (e_p0 : (gi ar1 0).toInt ≤ 5) (e_p1 : ar0 + 1 < ar1) : x_Me X (d + 4) n_X6_readComing [.ref ar0, .ref ar1] (sh, gi, gl, gr) (t_PI wl_s_readComing sh gi gl gr 0 1 (Q_s_readComing gi gl gr ar0 ar1)) := by
  have hX : t_X wl_s_readComing sh gi gl gr gi gl gr := t_X.rf
  refine me_i f_X6_readComing p_a0.1 rfl rfl rfl ?_
  have lw0 := (hI.b p_a1.1 (t_bdK rfl : t_bd 3 0 = some (0, 6))).1
  refine ev_loc f_X6_readComing (nx := 1) rfl rfl rfl rfl ?_
  have e1 := p_a0.2.2.2.2.1.1
  have p1 := p_a0.2.2.2.2.1.2
  refine ev_getR f_X6_readComing (nx := 4) rfl p_a0.1 rfl rfl e1 rfl rfl ?_
  refine ev_heap f_X6_readComing (nx := 7) rfl rfl rfl rfl ?_
  refine ev_qI f_X6_readComing (nx := 10) (r := []) rfl rfl rfl rfl rfl rfl rfl (c_s_takeAt hI ((ar0 + 1)) p1) rfl hX rfl (fun w2 gi2 gl2 gr2 l2 u2 hI hX hC2 q2 => ?_)
  have q2 : (∀ (b : Nat → Int32) (n q : Nat), t_TC b n q gi gl gr (ar0 + 1) → (w2.toInt = 1 ∧ s_W b n q = some 8 ∧ t_TC b n (s_E b n q) gi2 gl2 gr2 (ar0 + 1) ∧ t_nf gi gi2 (ar0 + 1)) ∨ (w2.toInt = 0 ∧ s_W b n q ≠ some 8 ∧ t_FL gi2 (ar0 + 1) (s_fk b n q 2) (s_F b n q))) ∧ t_on (ar0 + 1) gi gl gr gi2 gl2 gr2 := q2
  replace p_a0 := p_a0.ext hC2.2
  replace p_a1 := p_a1.ext hC2.2
  replace p1 := p1.ext hC2.2
  refine ev_if f_X6_readComing (t1 := 13) (t2 := 15) rfl rfl rfl (fun h3 => ?_) (fun h3 => ?_)
  · have u4 : w2.toInt ≤ 0 := t_equ h3 (by decide : (0:Int32).toInt ≤ (0:Int))
    refine ev_ic f_X6_readComing (nx := 14) (v := 0) rfl (by decide) rfl ?_
    exact ev_ret f_X6_readComing rfl rfl rfl ⟨_, _, _, rfl, hI, hX, ⟨_, rfl, (by decide : (0:Int) ≤ (0:Int32).toInt), (Int.le_trans (by decide : (0:Int32).toInt ≤ (0:Int)) (by decide : (0:Int) ≤ 1)), (show (∀ (b : Nat → Int32) (n q : Nat) (D : s_D), t_TC b n q gi gl gr (ar0 + 1) → t_FL gi (ar0 + 1) 0 (-1) → ((0 : Int) = 1 ∧ ∃ q2 x y z, (∀ K, s_come b n q D K = K q2 x y z) ∧ t_TC b n q2 gi2 gl2 gr2 (ar0 + 1) ∧ t_FL gi2 (ar0 + 1) 0 (-1) ∧ (gi2 ar1 0).toInt = (gi ar1 0).toInt + 1 ∧ t_ru (gi (ar1 + 2)) (gi2 (ar1 + 2)) (gi ar1 0).toNatClampNeg x ∧ t_ru (gi (ar1 + 3)) (gi2 (ar1 + 3)) (gi ar1 0).toNatClampNeg y ∧ t_ru (gi (ar1 + 4)) (gi2 (ar1 + 4)) (gi ar1 0).toNatClampNeg z ∧ t_ru (gi (ar1 + 5)) (gi2 (ar1 + 5)) (gi ar1 0).toNatClampNeg 0) ∨ ((0 : Int) = 0 ∧ ∃ p x, x ≠ 0 ∧ (∀ K, s_come b n q D K = s_bad b n p x D) ∧ t_FL gi2 (ar0 + 1) (s_fk b n p x) (s_F b n p))) ∧ t_xc [ar0 + 1, ar1, ar1 + 1, ar1 + 2, ar1 + 3, ar1 + 4, ar1 + 5] gi gl gr gi2 gl2 gr2 from ⟨(by
                                                            intro b n q D h f0
                                                            have h102 := p_a0.2.1
                                                            rcases q2.1 b n _ h with hh | hh
                                                            · exact absurd hh.1 (by omega)
                                                            · exact Or.inr ⟨rfl, _, 2, by decide, fun K => by simp only [s_come, s_num, s_kw, s_ifF hh.2.1], hh.2.2⟩), (t_xc.on t_xc.rf q2.2 (by simp))⟩)⟩⟩
  · have r5 : w2.toInt ≠ 0 := fun e => h3 (Int32.toInt_inj.mp (e.trans (by decide : (0:Int) = (0 : Int32).toInt)))
    have l6 : 1 ≤ w2.toInt := t_nel h3 l2 rfl rfl
    refine ev_loc f_X6_readComing (nx := 16) rfl rfl rfl rfl ?_
    refine ev_getR f_X6_readComing (nx := 19) (v := .ref (ar0 + 1)) rfl p_a0.1 rfl rfl ((hC2.1 ar0 0 (t_ninO hI.wf p_a0.1 (t_outO hI.wf p_a0.1 rfl) rfl)).2.2.trans e1) rfl rfl ?_
    refine ev_getI f_X6_readComing (nx := 22) rfl p1.1 rfl rfl rfl ?_
    refine ev_loc f_X6_readComing (nx := 23) (lo' := [(2, .int (gi2 (ar0 + 1) 8)), (0, .ref ar0), (1, .ref ar1)]) rfl rfl rfl rfl ?_
    refine ev_loc f_X6_readComing (nx := 24) rfl rfl rfl rfl ?_
    refine ev_getR f_X6_readComing (nx := 27) (v := .ref (ar0 + 1)) rfl p_a0.1 rfl rfl ((hC2.1 ar0 0 (t_ninO hI.wf p_a0.1 (t_outO hI.wf p_a0.1 rfl) rfl)).2.2.trans e1) rfl rfl ?_
    refine ev_ic f_X6_readComing (nx := 28) (v := 0) rfl (by decide) rfl ?_
    refine ev_bp f_X6_readComing (nx := 30) (v := 120) rfl (by decide) rfl ?_
    refine ev_qI f_X6_readComing (nx := 33) (r := []) rfl rfl rfl rfl rfl rfl rfl (c_s_takeNumber hI ((ar0 + 1)) p1 (0) (120)) rfl hX rfl (fun w7 gi7 gl7 gr7 l7 u7 hI hX hC7 q7 => ?_)
    have q7 : (∀ (b : Nat → Int32) (n q : Nat), t_TC b n q gi2 gl2 gr2 (ar0 + 1) → (w7.toInt = 1 ∧ s_isV b n q 0 120 ∧ t_TC b n (s_E b n q) gi7 gl7 gr7 (ar0 + 1) ∧ t_nf gi2 gi7 (ar0 + 1)) ∨ (w7.toInt = 0 ∧ s_K b n q ≠ 3 ∧ t_FL gi7 (ar0 + 1) (s_fk b n q 2) (s_F b n q)) ∨ (w7.toInt = 0 ∧ (s_K b n q = 3 ∧ ¬ s_isV b n q 0 120) ∧ t_FL gi7 (ar0 + 1) (s_fk b n q 4) (s_F b n q))) ∧ t_on (ar0 + 1) gi2 gl2 gr2 gi7 gl7 gr7 := q7
    replace p_a0 := p_a0.ext hC7.2
    replace p_a1 := p_a1.ext hC7.2
    replace p1 := p1.ext hC7.2
    refine ev_if f_X6_readComing (t1 := 49) (t2 := 36) rfl rfl rfl (fun h8 => ?_) (fun h8 => ?_)
    · have u9 : w7.toInt ≤ 0 := t_equ h8 (by decide : (0:Int32).toInt ≤ (0:Int))
      refine ev_ic f_X6_readComing (nx := 50) (v := 0) rfl (by decide) rfl ?_
      exact ev_ret f_X6_readComing rfl rfl rfl ⟨_, _, _, rfl, hI, hX, ⟨_, rfl, (by decide : (0:Int) ≤ (0:Int32).toInt), (Int.le_trans (by decide : (0:Int32).toInt ≤ (0:Int)) (by decide : (0:Int) ≤ 1)), (show (∀ (b : Nat → Int32) (n q : Nat) (D : s_D), t_TC b n q gi gl gr (ar0 + 1) → t_FL gi (ar0 + 1) 0 (-1) → ((0 : Int) = 1 ∧ ∃ q2 x y z, (∀ K, s_come b n q D K = K q2 x y z) ∧ t_TC b n q2 gi7 gl7 gr7 (ar0 + 1) ∧ t_FL gi7 (ar0 + 1) 0 (-1) ∧ (gi7 ar1 0).toInt = (gi ar1 0).toInt + 1 ∧ t_ru (gi (ar1 + 2)) (gi7 (ar1 + 2)) (gi ar1 0).toNatClampNeg x ∧ t_ru (gi (ar1 + 3)) (gi7 (ar1 + 3)) (gi ar1 0).toNatClampNeg y ∧ t_ru (gi (ar1 + 4)) (gi7 (ar1 + 4)) (gi ar1 0).toNatClampNeg z ∧ t_ru (gi (ar1 + 5)) (gi7 (ar1 + 5)) (gi ar1 0).toNatClampNeg 0) ∨ ((0 : Int) = 0 ∧ ∃ p x, x ≠ 0 ∧ (∀ K, s_come b n q D K = s_bad b n p x D) ∧ t_FL gi7 (ar0 + 1) (s_fk b n p x) (s_F b n p))) ∧ t_xc [ar0 + 1, ar1, ar1 + 1, ar1 + 2, ar1 + 3, ar1 + 4, ar1 + 5] gi gl gr gi7 gl7 gr7 from ⟨(by
                                                            intro b n q D h f0
                                                            have h102 := p_a0.2.1
                                                            obtain ⟨_, c1, h1, n1⟩ := (q2.1 b n _ h).resolve_right (fun hh => absurd hh.1 (by omega))
                                                            have f1 : t_FL gi2 (ar0 + 1) 0 (-1) := ⟨by rw [n1.1]; exact f0.1, by rw [n1.2]; exact f0.2⟩
                                                            rcases q7.1 b n _ h1 with hh | hh | hh
                                                            · exact absurd hh.1 (by omega)
                                                            · exact Or.inr ⟨rfl, _, 2, by decide, fun K => by simp only [s_come, s_num, s_kw, s_ifT c1, s_ifF hh.2.1], hh.2.2⟩
                                                            · exact Or.inr ⟨rfl, _, 4, by decide, fun K => by simp only [s_come, s_num, s_kw, s_ifT c1, s_ifT hh.2.1.1, s_ifF hh.2.1.2], hh.2.2⟩), (t_xc.on (t_xc.on t_xc.rf q2.2 (by simp)) q7.2 (by simp))⟩)⟩⟩
    · have r10 : w7.toInt ≠ 0 := fun e => h8 (Int32.toInt_inj.mp (e.trans (by decide : (0:Int) = (0 : Int32).toInt)))
      have l11 : 1 ≤ w7.toInt := t_nel h8 l7 rfl rfl
      refine ev_loc f_X6_readComing (nx := 37) rfl rfl rfl rfl ?_
      refine ev_getR f_X6_readComing (nx := 40) (v := .ref (ar0 + 1)) rfl p_a0.1 rfl rfl ((hC7.1 ar0 0 (t_ninO hI.wf p_a0.1 (t_outO hI.wf p_a0.1 rfl) rfl)).2.2.trans ((hC2.1 ar0 0 (t_ninO hI.wf p_a0.1 (t_outO hI.wf p_a0.1 rfl) rfl)).2.2.trans e1)) rfl rfl ?_
      refine ev_heap f_X6_readComing (nx := 43) rfl rfl rfl rfl ?_
      refine ev_qI f_X6_readComing (nx := 46) (r := []) rfl rfl rfl rfl rfl rfl rfl (c_s_takeTakes hI ((ar0 + 1)) p1) rfl hX rfl (fun w12 gi12 gl12 gr12 l12 u12 hI hX hC12 q12 => ?_)
      have q12 : (∀ (b : Nat → Int32) (n q : Nat), t_TC b n q gi7 gl7 gr7 (ar0 + 1) → (w12.toInt = 1 ∧ s_W b n q = some 9 ∧ t_TC b n (s_E b n q) gi12 gl12 gr12 (ar0 + 1) ∧ t_nf gi7 gi12 (ar0 + 1)) ∨ (w12.toInt = 0 ∧ s_W b n q ≠ some 9 ∧ t_FL gi12 (ar0 + 1) (s_fk b n q 2) (s_F b n q))) ∧ t_on (ar0 + 1) gi7 gl7 gr7 gi12 gl12 gr12 := q12
      replace p_a0 := p_a0.ext hC12.2
      replace p_a1 := p_a1.ext hC12.2
      replace p1 := p1.ext hC12.2
      refine ev_if f_X6_readComing (t1 := 49) (t2 := 51) rfl rfl rfl (fun h13 => ?_) (fun h13 => ?_)
      · have u14 : w12.toInt ≤ 0 := t_equ h13 (by decide : (0:Int32).toInt ≤ (0:Int))
        refine ev_ic f_X6_readComing (nx := 50) (v := 0) rfl (by decide) rfl ?_
        exact ev_ret f_X6_readComing rfl rfl rfl ⟨_, _, _, rfl, hI, hX, ⟨_, rfl, (by decide : (0:Int) ≤ (0:Int32).toInt), (Int.le_trans (by decide : (0:Int32).toInt ≤ (0:Int)) (by decide : (0:Int) ≤ 1)), (show (∀ (b : Nat → Int32) (n q : Nat) (D : s_D), t_TC b n q gi gl gr (ar0 + 1) → t_FL gi (ar0 + 1) 0 (-1) → ((0 : Int) = 1 ∧ ∃ q2 x y z, (∀ K, s_come b n q D K = K q2 x y z) ∧ t_TC b n q2 gi12 gl12 gr12 (ar0 + 1) ∧ t_FL gi12 (ar0 + 1) 0 (-1) ∧ (gi12 ar1 0).toInt = (gi ar1 0).toInt + 1 ∧ t_ru (gi (ar1 + 2)) (gi12 (ar1 + 2)) (gi ar1 0).toNatClampNeg x ∧ t_ru (gi (ar1 + 3)) (gi12 (ar1 + 3)) (gi ar1 0).toNatClampNeg y ∧ t_ru (gi (ar1 + 4)) (gi12 (ar1 + 4)) (gi ar1 0).toNatClampNeg z ∧ t_ru (gi (ar1 + 5)) (gi12 (ar1 + 5)) (gi ar1 0).toNatClampNeg 0) ∨ ((0 : Int) = 0 ∧ ∃ p x, x ≠ 0 ∧ (∀ K, s_come b n q D K = s_bad b n p x D) ∧ t_FL gi12 (ar0 + 1) (s_fk b n p x) (s_F b n p))) ∧ t_xc [ar0 + 1, ar1, ar1 + 1, ar1 + 2, ar1 + 3, ar1 + 4, ar1 + 5] gi gl gr gi12 gl12 gr12 from ⟨(by
                                                            intro b n q D h f0
                                                            have h102 := p_a0.2.1
                                                            obtain ⟨_, c1, h1, n1⟩ := (q2.1 b n _ h).resolve_right (fun hh => absurd hh.1 (by omega))
                                                            have f1 : t_FL gi2 (ar0 + 1) 0 (-1) := ⟨by rw [n1.1]; exact f0.1, by rw [n1.2]; exact f0.2⟩
                                                            obtain ⟨_, c2, h2, n2⟩ := (q7.1 b n _ h1).resolve_right (fun hh => by rcases hh with hh | hh <;> exact absurd hh.1 (by omega))
                                                            have v2 : (gi2 (ar0 + 1) 8).toInt = s_V b n _ := congrArg Int32.toInt (h1.2.2.2.2.2.2.1 c2.1)
                                                            have f2 : t_FL gi7 (ar0 + 1) 0 (-1) := ⟨by rw [n2.1]; exact f1.1, by rw [n2.2]; exact f1.2⟩
                                                            rcases q12.1 b n _ h2 with hh | hh
                                                            · exact absurd hh.1 (by omega)
                                                            · exact Or.inr ⟨rfl, _, 2, by decide, fun K => by simp only [s_come, s_num, s_kw, s_ifT c1, s_ifT c2.1, s_ifT c2, s_ifF hh.2.1], hh.2.2⟩), (t_xc.on (t_xc.on (t_xc.on t_xc.rf q2.2 (by simp)) q7.2 (by simp)) q12.2 (by simp))⟩)⟩⟩
      · have r15 : w12.toInt ≠ 0 := fun e => h13 (Int32.toInt_inj.mp (e.trans (by decide : (0:Int) = (0 : Int32).toInt)))
        have l16 : 1 ≤ w12.toInt := t_nel h13 l12 rfl rfl
        refine ev_loc f_X6_readComing (nx := 52) rfl rfl rfl rfl ?_
        refine ev_getR f_X6_readComing (nx := 55) (v := .ref (ar0 + 1)) rfl p_a0.1 rfl rfl ((hC12.1 ar0 0 (t_ninO hI.wf p_a0.1 (t_outO hI.wf p_a0.1 rfl) rfl)).2.2.trans ((hC7.1 ar0 0 (t_ninO hI.wf p_a0.1 (t_outO hI.wf p_a0.1 rfl) rfl)).2.2.trans ((hC2.1 ar0 0 (t_ninO hI.wf p_a0.1 (t_outO hI.wf p_a0.1 rfl) rfl)).2.2.trans e1))) rfl rfl ?_
        refine ev_getI f_X6_readComing (nx := 58) rfl p1.1 rfl rfl rfl ?_
        refine ev_loc f_X6_readComing (nx := 59) (lo' := [(3, .int (gi12 (ar0 + 1) 8)), (2, .int (gi2 (ar0 + 1) 8)), (0, .ref ar0), (1, .ref ar1)]) rfl rfl rfl rfl ?_
        refine ev_loc f_X6_readComing (nx := 60) rfl rfl rfl rfl ?_
        refine ev_getR f_X6_readComing (nx := 63) (v := .ref (ar0 + 1)) rfl p_a0.1 rfl rfl ((hC12.1 ar0 0 (t_ninO hI.wf p_a0.1 (t_outO hI.wf p_a0.1 rfl) rfl)).2.2.trans ((hC7.1 ar0 0 (t_ninO hI.wf p_a0.1 (t_outO hI.wf p_a0.1 rfl) rfl)).2.2.trans ((hC2.1 ar0 0 (t_ninO hI.wf p_a0.1 (t_outO hI.wf p_a0.1 rfl) rfl)).2.2.trans e1))) rfl rfl ?_
        refine ev_ic f_X6_readComing (nx := 64) (v := 1) rfl (by decide) rfl ?_
        refine ev_bp f_X6_readComing (nx := 66) (v := 20) rfl (by decide) rfl ?_
        refine ev_qI f_X6_readComing (nx := 69) (r := []) rfl rfl rfl rfl rfl rfl rfl (c_s_takeNumber hI ((ar0 + 1)) p1 (1) (20)) rfl hX rfl (fun w17 gi17 gl17 gr17 l17 u17 hI hX hC17 q17 => ?_)
        have q17 : (∀ (b : Nat → Int32) (n q : Nat), t_TC b n q gi12 gl12 gr12 (ar0 + 1) → (w17.toInt = 1 ∧ s_isV b n q 1 20 ∧ t_TC b n (s_E b n q) gi17 gl17 gr17 (ar0 + 1) ∧ t_nf gi12 gi17 (ar0 + 1)) ∨ (w17.toInt = 0 ∧ s_K b n q ≠ 3 ∧ t_FL gi17 (ar0 + 1) (s_fk b n q 2) (s_F b n q)) ∨ (w17.toInt = 0 ∧ (s_K b n q = 3 ∧ ¬ s_isV b n q 1 20) ∧ t_FL gi17 (ar0 + 1) (s_fk b n q 4) (s_F b n q))) ∧ t_on (ar0 + 1) gi12 gl12 gr12 gi17 gl17 gr17 := q17
        replace p_a0 := p_a0.ext hC17.2
        replace p_a1 := p_a1.ext hC17.2
        replace p1 := p1.ext hC17.2
        refine ev_if f_X6_readComing (t1 := 85) (t2 := 72) rfl rfl rfl (fun h18 => ?_) (fun h18 => ?_)
        · have u19 : w17.toInt ≤ 0 := t_equ h18 (by decide : (0:Int32).toInt ≤ (0:Int))
          refine ev_ic f_X6_readComing (nx := 86) (v := 0) rfl (by decide) rfl ?_
          exact ev_ret f_X6_readComing rfl rfl rfl ⟨_, _, _, rfl, hI, hX, ⟨_, rfl, (by decide : (0:Int) ≤ (0:Int32).toInt), (Int.le_trans (by decide : (0:Int32).toInt ≤ (0:Int)) (by decide : (0:Int) ≤ 1)), (show (∀ (b : Nat → Int32) (n q : Nat) (D : s_D), t_TC b n q gi gl gr (ar0 + 1) → t_FL gi (ar0 + 1) 0 (-1) → ((0 : Int) = 1 ∧ ∃ q2 x y z, (∀ K, s_come b n q D K = K q2 x y z) ∧ t_TC b n q2 gi17 gl17 gr17 (ar0 + 1) ∧ t_FL gi17 (ar0 + 1) 0 (-1) ∧ (gi17 ar1 0).toInt = (gi ar1 0).toInt + 1 ∧ t_ru (gi (ar1 + 2)) (gi17 (ar1 + 2)) (gi ar1 0).toNatClampNeg x ∧ t_ru (gi (ar1 + 3)) (gi17 (ar1 + 3)) (gi ar1 0).toNatClampNeg y ∧ t_ru (gi (ar1 + 4)) (gi17 (ar1 + 4)) (gi ar1 0).toNatClampNeg z ∧ t_ru (gi (ar1 + 5)) (gi17 (ar1 + 5)) (gi ar1 0).toNatClampNeg 0) ∨ ((0 : Int) = 0 ∧ ∃ p x, x ≠ 0 ∧ (∀ K, s_come b n q D K = s_bad b n p x D) ∧ t_FL gi17 (ar0 + 1) (s_fk b n p x) (s_F b n p))) ∧ t_xc [ar0 + 1, ar1, ar1 + 1, ar1 + 2, ar1 + 3, ar1 + 4, ar1 + 5] gi gl gr gi17 gl17 gr17 from ⟨(by
                                                            intro b n q D h f0
                                                            have h102 := p_a0.2.1
                                                            obtain ⟨_, c1, h1, n1⟩ := (q2.1 b n _ h).resolve_right (fun hh => absurd hh.1 (by omega))
                                                            have f1 : t_FL gi2 (ar0 + 1) 0 (-1) := ⟨by rw [n1.1]; exact f0.1, by rw [n1.2]; exact f0.2⟩
                                                            obtain ⟨_, c2, h2, n2⟩ := (q7.1 b n _ h1).resolve_right (fun hh => by rcases hh with hh | hh <;> exact absurd hh.1 (by omega))
                                                            have v2 : (gi2 (ar0 + 1) 8).toInt = s_V b n _ := congrArg Int32.toInt (h1.2.2.2.2.2.2.1 c2.1)
                                                            have f2 : t_FL gi7 (ar0 + 1) 0 (-1) := ⟨by rw [n2.1]; exact f1.1, by rw [n2.2]; exact f1.2⟩
                                                            obtain ⟨_, c3, h3, n3⟩ := (q12.1 b n _ h2).resolve_right (fun hh => absurd hh.1 (by omega))
                                                            have f3 : t_FL gi12 (ar0 + 1) 0 (-1) := ⟨by rw [n3.1]; exact f2.1, by rw [n3.2]; exact f2.2⟩
                                                            rcases q17.1 b n _ h3 with hh | hh | hh
                                                            · exact absurd hh.1 (by omega)
                                                            · exact Or.inr ⟨rfl, _, 2, by decide, fun K => by simp only [s_come, s_num, s_kw, s_ifT c1, s_ifT c2.1, s_ifT c2, s_ifT c3, s_ifF hh.2.1], hh.2.2⟩
                                                            · exact Or.inr ⟨rfl, _, 4, by decide, fun K => by simp only [s_come, s_num, s_kw, s_ifT c1, s_ifT c2.1, s_ifT c2, s_ifT c3, s_ifT hh.2.1.1, s_ifF hh.2.1.2], hh.2.2⟩), (t_xc.on (t_xc.on (t_xc.on (t_xc.on t_xc.rf q2.2 (by simp)) q7.2 (by simp)) q12.2 (by simp)) q17.2 (by simp))⟩)⟩⟩
        · have r20 : w17.toInt ≠ 0 := fun e => h18 (Int32.toInt_inj.mp (e.trans (by decide : (0:Int) = (0 : Int32).toInt)))
          have l21 : 1 ≤ w17.toInt := t_nel h18 l17 rfl rfl
          refine ev_loc f_X6_readComing (nx := 73) rfl rfl rfl rfl ?_
          refine ev_getR f_X6_readComing (nx := 76) (v := .ref (ar0 + 1)) rfl p_a0.1 rfl rfl ((hC17.1 ar0 0 (t_ninO hI.wf p_a0.1 (t_outO hI.wf p_a0.1 rfl) rfl)).2.2.trans ((hC12.1 ar0 0 (t_ninO hI.wf p_a0.1 (t_outO hI.wf p_a0.1 rfl) rfl)).2.2.trans ((hC7.1 ar0 0 (t_ninO hI.wf p_a0.1 (t_outO hI.wf p_a0.1 rfl) rfl)).2.2.trans ((hC2.1 ar0 0 (t_ninO hI.wf p_a0.1 (t_outO hI.wf p_a0.1 rfl) rfl)).2.2.trans e1)))) rfl rfl ?_
          refine ev_heap f_X6_readComing (nx := 79) rfl rfl rfl rfl ?_
          refine ev_qI f_X6_readComing (nx := 82) (r := []) rfl rfl rfl rfl rfl rfl rfl (c_s_takeCosts hI ((ar0 + 1)) p1) rfl hX rfl (fun w22 gi22 gl22 gr22 l22 u22 hI hX hC22 q22 => ?_)
          have q22 : (∀ (b : Nat → Int32) (n q : Nat), t_TC b n q gi17 gl17 gr17 (ar0 + 1) → (w22.toInt = 1 ∧ s_W b n q = some 10 ∧ t_TC b n (s_E b n q) gi22 gl22 gr22 (ar0 + 1) ∧ t_nf gi17 gi22 (ar0 + 1)) ∨ (w22.toInt = 0 ∧ s_W b n q ≠ some 10 ∧ t_FL gi22 (ar0 + 1) (s_fk b n q 2) (s_F b n q))) ∧ t_on (ar0 + 1) gi17 gl17 gr17 gi22 gl22 gr22 := q22
          replace p_a0 := p_a0.ext hC22.2
          replace p_a1 := p_a1.ext hC22.2
          replace p1 := p1.ext hC22.2
          refine ev_if f_X6_readComing (t1 := 85) (t2 := 87) rfl rfl rfl (fun h23 => ?_) (fun h23 => ?_)
          · have u24 : w22.toInt ≤ 0 := t_equ h23 (by decide : (0:Int32).toInt ≤ (0:Int))
            refine ev_ic f_X6_readComing (nx := 86) (v := 0) rfl (by decide) rfl ?_
            exact ev_ret f_X6_readComing rfl rfl rfl ⟨_, _, _, rfl, hI, hX, ⟨_, rfl, (by decide : (0:Int) ≤ (0:Int32).toInt), (Int.le_trans (by decide : (0:Int32).toInt ≤ (0:Int)) (by decide : (0:Int) ≤ 1)), (show (∀ (b : Nat → Int32) (n q : Nat) (D : s_D), t_TC b n q gi gl gr (ar0 + 1) → t_FL gi (ar0 + 1) 0 (-1) → ((0 : Int) = 1 ∧ ∃ q2 x y z, (∀ K, s_come b n q D K = K q2 x y z) ∧ t_TC b n q2 gi22 gl22 gr22 (ar0 + 1) ∧ t_FL gi22 (ar0 + 1) 0 (-1) ∧ (gi22 ar1 0).toInt = (gi ar1 0).toInt + 1 ∧ t_ru (gi (ar1 + 2)) (gi22 (ar1 + 2)) (gi ar1 0).toNatClampNeg x ∧ t_ru (gi (ar1 + 3)) (gi22 (ar1 + 3)) (gi ar1 0).toNatClampNeg y ∧ t_ru (gi (ar1 + 4)) (gi22 (ar1 + 4)) (gi ar1 0).toNatClampNeg z ∧ t_ru (gi (ar1 + 5)) (gi22 (ar1 + 5)) (gi ar1 0).toNatClampNeg 0) ∨ ((0 : Int) = 0 ∧ ∃ p x, x ≠ 0 ∧ (∀ K, s_come b n q D K = s_bad b n p x D) ∧ t_FL gi22 (ar0 + 1) (s_fk b n p x) (s_F b n p))) ∧ t_xc [ar0 + 1, ar1, ar1 + 1, ar1 + 2, ar1 + 3, ar1 + 4, ar1 + 5] gi gl gr gi22 gl22 gr22 from ⟨(by
                                                            intro b n q D h f0
                                                            have h102 := p_a0.2.1
                                                            obtain ⟨_, c1, h1, n1⟩ := (q2.1 b n _ h).resolve_right (fun hh => absurd hh.1 (by omega))
                                                            have f1 : t_FL gi2 (ar0 + 1) 0 (-1) := ⟨by rw [n1.1]; exact f0.1, by rw [n1.2]; exact f0.2⟩
                                                            obtain ⟨_, c2, h2, n2⟩ := (q7.1 b n _ h1).resolve_right (fun hh => by rcases hh with hh | hh <;> exact absurd hh.1 (by omega))
                                                            have v2 : (gi2 (ar0 + 1) 8).toInt = s_V b n _ := congrArg Int32.toInt (h1.2.2.2.2.2.2.1 c2.1)
                                                            have f2 : t_FL gi7 (ar0 + 1) 0 (-1) := ⟨by rw [n2.1]; exact f1.1, by rw [n2.2]; exact f1.2⟩
                                                            obtain ⟨_, c3, h3, n3⟩ := (q12.1 b n _ h2).resolve_right (fun hh => absurd hh.1 (by omega))
                                                            have f3 : t_FL gi12 (ar0 + 1) 0 (-1) := ⟨by rw [n3.1]; exact f2.1, by rw [n3.2]; exact f2.2⟩
                                                            obtain ⟨_, c4, h4, n4⟩ := (q17.1 b n _ h3).resolve_right (fun hh => by rcases hh with hh | hh <;> exact absurd hh.1 (by omega))
                                                            have v4 : (gi12 (ar0 + 1) 8).toInt = s_V b n _ := congrArg Int32.toInt (h3.2.2.2.2.2.2.1 c4.1)
                                                            have f4 : t_FL gi17 (ar0 + 1) 0 (-1) := ⟨by rw [n4.1]; exact f3.1, by rw [n4.2]; exact f3.2⟩
                                                            rcases q22.1 b n _ h4 with hh | hh
                                                            · exact absurd hh.1 (by omega)
                                                            · exact Or.inr ⟨rfl, _, 2, by decide, fun K => by simp only [s_come, s_num, s_kw, s_ifT c1, s_ifT c2.1, s_ifT c2, s_ifT c3, s_ifT c4.1, s_ifT c4, s_ifF hh.2.1], hh.2.2⟩), (t_xc.on (t_xc.on (t_xc.on (t_xc.on (t_xc.on t_xc.rf q2.2 (by simp)) q7.2 (by simp)) q12.2 (by simp)) q17.2 (by simp)) q22.2 (by simp))⟩)⟩⟩
          · have r25 : w22.toInt ≠ 0 := fun e => h23 (Int32.toInt_inj.mp (e.trans (by decide : (0:Int) = (0 : Int32).toInt)))
            have l26 : 1 ≤ w22.toInt := t_nel h23 l22 rfl rfl
            refine ev_loc f_X6_readComing (nx := 88) rfl rfl rfl rfl ?_
            refine ev_getR f_X6_readComing (nx := 91) (v := .ref (ar0 + 1)) rfl p_a0.1 rfl rfl ((hC22.1 ar0 0 (t_ninO hI.wf p_a0.1 (t_outO hI.wf p_a0.1 rfl) rfl)).2.2.trans ((hC17.1 ar0 0 (t_ninO hI.wf p_a0.1 (t_outO hI.wf p_a0.1 rfl) rfl)).2.2.trans ((hC12.1 ar0 0 (t_ninO hI.wf p_a0.1 (t_outO hI.wf p_a0.1 rfl) rfl)).2.2.trans ((hC7.1 ar0 0 (t_ninO hI.wf p_a0.1 (t_outO hI.wf p_a0.1 rfl) rfl)).2.2.trans ((hC2.1 ar0 0 (t_ninO hI.wf p_a0.1 (t_outO hI.wf p_a0.1 rfl) rfl)).2.2.trans e1))))) rfl rfl ?_
            refine ev_getI f_X6_readComing (nx := 94) rfl p1.1 rfl rfl rfl ?_
            refine ev_loc f_X6_readComing (nx := 96) (lo' := [(4, .int (gi22 (ar0 + 1) 8)), (3, .int (gi12 (ar0 + 1) 8)), (2, .int (gi2 (ar0 + 1) 8)), (0, .ref ar0), (1, .ref ar1)]) rfl rfl rfl rfl ?_
            refine ev_loc f_X6_readComing (nx := 97) rfl rfl rfl rfl ?_
            refine ev_getR f_X6_readComing (nx := 100) (v := .ref (ar0 + 1)) rfl p_a0.1 rfl rfl ((hC22.1 ar0 0 (t_ninO hI.wf p_a0.1 (t_outO hI.wf p_a0.1 rfl) rfl)).2.2.trans ((hC17.1 ar0 0 (t_ninO hI.wf p_a0.1 (t_outO hI.wf p_a0.1 rfl) rfl)).2.2.trans ((hC12.1 ar0 0 (t_ninO hI.wf p_a0.1 (t_outO hI.wf p_a0.1 rfl) rfl)).2.2.trans ((hC7.1 ar0 0 (t_ninO hI.wf p_a0.1 (t_outO hI.wf p_a0.1 rfl) rfl)).2.2.trans ((hC2.1 ar0 0 (t_ninO hI.wf p_a0.1 (t_outO hI.wf p_a0.1 rfl) rfl)).2.2.trans e1))))) rfl rfl ?_
            refine ev_ic f_X6_readComing (nx := 101) (v := 0) rfl (by decide) rfl ?_
            refine ev_bp f_X6_readComing (nx := 103) (v := 99) rfl (by decide) rfl ?_
            refine ev_qI f_X6_readComing (nx := 106) (r := []) rfl rfl rfl rfl rfl rfl rfl (c_s_takeNumber hI ((ar0 + 1)) p1 (0) (99)) rfl hX rfl (fun w27 gi27 gl27 gr27 l27 u27 hI hX hC27 q27 => ?_)
            have q27 : (∀ (b : Nat → Int32) (n q : Nat), t_TC b n q gi22 gl22 gr22 (ar0 + 1) → (w27.toInt = 1 ∧ s_isV b n q 0 99 ∧ t_TC b n (s_E b n q) gi27 gl27 gr27 (ar0 + 1) ∧ t_nf gi22 gi27 (ar0 + 1)) ∨ (w27.toInt = 0 ∧ s_K b n q ≠ 3 ∧ t_FL gi27 (ar0 + 1) (s_fk b n q 2) (s_F b n q)) ∨ (w27.toInt = 0 ∧ (s_K b n q = 3 ∧ ¬ s_isV b n q 0 99) ∧ t_FL gi27 (ar0 + 1) (s_fk b n q 4) (s_F b n q))) ∧ t_on (ar0 + 1) gi22 gl22 gr22 gi27 gl27 gr27 := q27
            replace p_a0 := p_a0.ext hC27.2
            replace p_a1 := p_a1.ext hC27.2
            replace p1 := p1.ext hC27.2
            refine ev_if f_X6_readComing (t1 := 109) (t2 := 111) rfl rfl rfl (fun h28 => ?_) (fun h28 => ?_)
            · have u29 : w27.toInt ≤ 0 := t_equ h28 (by decide : (0:Int32).toInt ≤ (0:Int))
              refine ev_ic f_X6_readComing (nx := 110) (v := 0) rfl (by decide) rfl ?_
              exact ev_ret f_X6_readComing rfl rfl rfl ⟨_, _, _, rfl, hI, hX, ⟨_, rfl, (by decide : (0:Int) ≤ (0:Int32).toInt), (Int.le_trans (by decide : (0:Int32).toInt ≤ (0:Int)) (by decide : (0:Int) ≤ 1)), (show (∀ (b : Nat → Int32) (n q : Nat) (D : s_D), t_TC b n q gi gl gr (ar0 + 1) → t_FL gi (ar0 + 1) 0 (-1) → ((0 : Int) = 1 ∧ ∃ q2 x y z, (∀ K, s_come b n q D K = K q2 x y z) ∧ t_TC b n q2 gi27 gl27 gr27 (ar0 + 1) ∧ t_FL gi27 (ar0 + 1) 0 (-1) ∧ (gi27 ar1 0).toInt = (gi ar1 0).toInt + 1 ∧ t_ru (gi (ar1 + 2)) (gi27 (ar1 + 2)) (gi ar1 0).toNatClampNeg x ∧ t_ru (gi (ar1 + 3)) (gi27 (ar1 + 3)) (gi ar1 0).toNatClampNeg y ∧ t_ru (gi (ar1 + 4)) (gi27 (ar1 + 4)) (gi ar1 0).toNatClampNeg z ∧ t_ru (gi (ar1 + 5)) (gi27 (ar1 + 5)) (gi ar1 0).toNatClampNeg 0) ∨ ((0 : Int) = 0 ∧ ∃ p x, x ≠ 0 ∧ (∀ K, s_come b n q D K = s_bad b n p x D) ∧ t_FL gi27 (ar0 + 1) (s_fk b n p x) (s_F b n p))) ∧ t_xc [ar0 + 1, ar1, ar1 + 1, ar1 + 2, ar1 + 3, ar1 + 4, ar1 + 5] gi gl gr gi27 gl27 gr27 from ⟨(by
                                                            intro b n q D h f0
                                                            have h102 := p_a0.2.1
                                                            obtain ⟨_, c1, h1, n1⟩ := (q2.1 b n _ h).resolve_right (fun hh => absurd hh.1 (by omega))
                                                            have f1 : t_FL gi2 (ar0 + 1) 0 (-1) := ⟨by rw [n1.1]; exact f0.1, by rw [n1.2]; exact f0.2⟩
                                                            obtain ⟨_, c2, h2, n2⟩ := (q7.1 b n _ h1).resolve_right (fun hh => by rcases hh with hh | hh <;> exact absurd hh.1 (by omega))
                                                            have v2 : (gi2 (ar0 + 1) 8).toInt = s_V b n _ := congrArg Int32.toInt (h1.2.2.2.2.2.2.1 c2.1)
                                                            have f2 : t_FL gi7 (ar0 + 1) 0 (-1) := ⟨by rw [n2.1]; exact f1.1, by rw [n2.2]; exact f1.2⟩
                                                            obtain ⟨_, c3, h3, n3⟩ := (q12.1 b n _ h2).resolve_right (fun hh => absurd hh.1 (by omega))
                                                            have f3 : t_FL gi12 (ar0 + 1) 0 (-1) := ⟨by rw [n3.1]; exact f2.1, by rw [n3.2]; exact f2.2⟩
                                                            obtain ⟨_, c4, h4, n4⟩ := (q17.1 b n _ h3).resolve_right (fun hh => by rcases hh with hh | hh <;> exact absurd hh.1 (by omega))
                                                            have v4 : (gi12 (ar0 + 1) 8).toInt = s_V b n _ := congrArg Int32.toInt (h3.2.2.2.2.2.2.1 c4.1)
                                                            have f4 : t_FL gi17 (ar0 + 1) 0 (-1) := ⟨by rw [n4.1]; exact f3.1, by rw [n4.2]; exact f3.2⟩
                                                            obtain ⟨_, c5, h5, n5⟩ := (q22.1 b n _ h4).resolve_right (fun hh => absurd hh.1 (by omega))
                                                            have f5 : t_FL gi22 (ar0 + 1) 0 (-1) := ⟨by rw [n5.1]; exact f4.1, by rw [n5.2]; exact f4.2⟩
                                                            rcases q27.1 b n _ h5 with hh | hh | hh
                                                            · exact absurd hh.1 (by omega)
                                                            · exact Or.inr ⟨rfl, _, 2, by decide, fun K => by simp only [s_come, s_num, s_kw, s_ifT c1, s_ifT c2.1, s_ifT c2, s_ifT c3, s_ifT c4.1, s_ifT c4, s_ifT c5, s_ifF hh.2.1], hh.2.2⟩
                                                            · exact Or.inr ⟨rfl, _, 4, by decide, fun K => by simp only [s_come, s_num, s_kw, s_ifT c1, s_ifT c2.1, s_ifT c2, s_ifT c3, s_ifT c4.1, s_ifT c4, s_ifT c5, s_ifT hh.2.1.1, s_ifF hh.2.1.2], hh.2.2⟩), (t_xc.on (t_xc.on (t_xc.on (t_xc.on (t_xc.on (t_xc.on t_xc.rf q2.2 (by simp)) q7.2 (by simp)) q12.2 (by simp)) q17.2 (by simp)) q22.2 (by simp)) q27.2 (by simp))⟩)⟩⟩
            · have r30 : w27.toInt ≠ 0 := fun e => h28 (Int32.toInt_inj.mp (e.trans (by decide : (0:Int) = (0 : Int32).toInt)))
              have l31 : 1 ≤ w27.toInt := t_nel h28 l27 rfl rfl
              refine ev_loc f_X6_readComing (nx := 112) rfl rfl rfl rfl ?_
              refine ev_loc f_X6_readComing (nx := 113) rfl rfl rfl rfl ?_
              refine ev_gvI f_X6_readComing (nx := 116) (w := (gi ar1 0)) rfl p_a1.1 rfl rfl ((hC27.1 ar1 0 (t_ninO hI.wf p_a1.1 (t_outO hI.wf p_a1.1 rfl) rfl)).1.trans ((hC22.1 ar1 0 (t_ninO hI.wf p_a1.1 (t_outO hI.wf p_a1.1 rfl) rfl)).1.trans ((hC17.1 ar1 0 (t_ninO hI.wf p_a1.1 (t_outO hI.wf p_a1.1 rfl) rfl)).1.trans ((hC12.1 ar1 0 (t_ninO hI.wf p_a1.1 (t_outO hI.wf p_a1.1 rfl) rfl)).1.trans ((hC7.1 ar1 0 (t_ninO hI.wf p_a1.1 (t_outO hI.wf p_a1.1 rfl) rfl)).1.trans ((hC2.1 ar1 0 (t_ninO hI.wf p_a1.1 (t_outO hI.wf p_a1.1 rfl) rfl)).1.trans rfl)))))) rfl ?_
              refine ev_loc f_X6_readComing (nx := 117) rfl rfl rfl rfl ?_
              refine ev_gvI f_X6_readComing (nx := 120) (w := (gi ar1 0)) rfl p_a1.1 rfl rfl ((hC27.1 ar1 0 (t_ninO hI.wf p_a1.1 (t_outO hI.wf p_a1.1 rfl) rfl)).1.trans ((hC22.1 ar1 0 (t_ninO hI.wf p_a1.1 (t_outO hI.wf p_a1.1 rfl) rfl)).1.trans ((hC17.1 ar1 0 (t_ninO hI.wf p_a1.1 (t_outO hI.wf p_a1.1 rfl) rfl)).1.trans ((hC12.1 ar1 0 (t_ninO hI.wf p_a1.1 (t_outO hI.wf p_a1.1 rfl) rfl)).1.trans ((hC7.1 ar1 0 (t_ninO hI.wf p_a1.1 (t_outO hI.wf p_a1.1 rfl) rfl)).1.trans ((hC2.1 ar1 0 (t_ninO hI.wf p_a1.1 (t_outO hI.wf p_a1.1 rfl) rfl)).1.trans rfl)))))) rfl ?_
              refine ev_loc f_X6_readComing (nx := 121) rfl rfl rfl rfl ?_
              refine ev_loc f_X6_readComing (nx := 122) rfl rfl rfl rfl ?_
              refine ev_loc f_X6_readComing (nx := 124) rfl rfl rfl rfl ?_
              refine ev_ic f_X6_readComing (nx := 125) (v := 0) rfl (by decide) rfl ?_
              refine ev_qN f_X6_readComing (nx := 128) (r := []) rfl rfl rfl rfl rfl rfl rfl (c_s_put hI (ar1) p_a1 ((gi ar1 0)) ((gi ar1 0)) ((gi2 (ar0 + 1) 8)) ((gi12 (ar0 + 1) 8)) ((gi22 (ar0 + 1) 8)) (0) (by decide : (0:Int) ≤ (0:Int32).toInt) (Int.le_trans (by decide : (0:Int32).toInt ≤ (0:Int)) (by decide : (0:Int) ≤ 1))) rfl hX rfl (fun gi32 gl32 gr32 hI hX hC32 q32 => ?_)
              have q32 : (((gi ar1 0).toInt < 0 ∨ 6 ≤ (gi ar1 0).toInt) → gi32 = gi27) ∧ ((0 ≤ (gi ar1 0).toInt ∧ (gi ar1 0).toInt < 6) → gi32 = x_up2 (x_up2 (x_up2 (x_up2 (x_up2 (gi27) (ar1 + 1) (gi ar1 0).toNatClampNeg (gi ar1 0)) (ar1 + 2) (gi ar1 0).toNatClampNeg (gi2 (ar0 + 1) 8)) (ar1 + 3) (gi ar1 0).toNatClampNeg (gi12 (ar0 + 1) 8)) (ar1 + 4) (gi ar1 0).toNatClampNeg (gi22 (ar0 + 1) 8)) (ar1 + 5) (gi ar1 0).toNatClampNeg (0 : Int32)) ∧ gl32 = gl27 ∧ gr32 = gr27 := q32
              replace p_a0 := p_a0.ext hC32.2
              replace p_a1 := p_a1.ext hC32.2
              replace p1 := p1.ext hC32.2
              refine ev_loc f_X6_readComing (nx := 129) rfl rfl rfl rfl ?_
              refine ev_alu f_X6_readComing (nx := 130) rfl rfl rfl rfl ?_
              refine ev_gvI f_X6_readComing (nx := 133) (w := (gi ar1 0)) rfl p_a1.1 rfl rfl ((hC32.1 ar1 0 (t_ninO hI.wf p_a1.1 (t_outO hI.wf p_a1.1 rfl) rfl)).1.trans ((hC27.1 ar1 0 (t_ninO hI.wf p_a1.1 (t_outO hI.wf p_a1.1 rfl) rfl)).1.trans ((hC22.1 ar1 0 (t_ninO hI.wf p_a1.1 (t_outO hI.wf p_a1.1 rfl) rfl)).1.trans ((hC17.1 ar1 0 (t_ninO hI.wf p_a1.1 (t_outO hI.wf p_a1.1 rfl) rfl)).1.trans ((hC12.1 ar1 0 (t_ninO hI.wf p_a1.1 (t_outO hI.wf p_a1.1 rfl) rfl)).1.trans ((hC7.1 ar1 0 (t_ninO hI.wf p_a1.1 (t_outO hI.wf p_a1.1 rfl) rfl)).1.trans ((hC2.1 ar1 0 (t_ninO hI.wf p_a1.1 (t_outO hI.wf p_a1.1 rfl) rfl)).1.trans rfl))))))) rfl ?_
              refine ev_ic f_X6_readComing (nx := 134) (v := 1) rfl (by decide) rfl ?_
              refine ev_addC f_X6_readComing (nx := 135) (c := 1) (l := 1) (u := 6) rfl (by decide) lw0 e_p0 rfl rfl (by decide) (by decide) rfl (fun z33 e33 l33 u33 => ?_)
              refine ev_putIT f_X6_readComing (nx := 138) rfl p_a1.1 rfl rfl rfl (hI.putB p_a1.1 rfl rfl l33 (by decide) u33 (by decide)) (hX.upI (t_inO hI.wf p_a1.1 (t_outO hI.wf p_a1.1 rfl) rfl)) (fun g34 e34 hI hX => ?_)
              refine ev_ic f_X6_readComing (nx := 139) (v := 1) rfl (by decide) rfl ?_
              exact ev_ret f_X6_readComing rfl rfl rfl ⟨_, _, _, rfl, hI, hX, ⟨_, rfl, (Int.le_trans (by decide : (0:Int) ≤ 1) (by decide : (1:Int) ≤ (1:Int32).toInt)), (by decide : (1:Int32).toInt ≤ (1:Int)), (show (∀ (b : Nat → Int32) (n q : Nat) (D : s_D), t_TC b n q gi gl gr (ar0 + 1) → t_FL gi (ar0 + 1) 0 (-1) → ((1 : Int) = 1 ∧ ∃ q2 x y z, (∀ K, s_come b n q D K = K q2 x y z) ∧ t_TC b n q2 g34 gl32 gr32 (ar0 + 1) ∧ t_FL g34 (ar0 + 1) 0 (-1) ∧ (g34 ar1 0).toInt = (gi ar1 0).toInt + 1 ∧ t_ru (gi (ar1 + 2)) (g34 (ar1 + 2)) (gi ar1 0).toNatClampNeg x ∧ t_ru (gi (ar1 + 3)) (g34 (ar1 + 3)) (gi ar1 0).toNatClampNeg y ∧ t_ru (gi (ar1 + 4)) (g34 (ar1 + 4)) (gi ar1 0).toNatClampNeg z ∧ t_ru (gi (ar1 + 5)) (g34 (ar1 + 5)) (gi ar1 0).toNatClampNeg 0) ∨ ((1 : Int) = 0 ∧ ∃ p x, x ≠ 0 ∧ (∀ K, s_come b n q D K = s_bad b n p x D) ∧ t_FL g34 (ar0 + 1) (s_fk b n p x) (s_F b n p))) ∧ t_xc [ar0 + 1, ar1, ar1 + 1, ar1 + 2, ar1 + 3, ar1 + 4, ar1 + 5] gi gl gr g34 gl32 gr32 from ⟨(by
                                                            intro b n q D h f0
                                                            have h102 := p_a0.2.1
                                                            obtain ⟨_, c1, h1, n1⟩ := (q2.1 b n _ h).resolve_right (fun hh => absurd hh.1 (by omega))
                                                            have f1 : t_FL gi2 (ar0 + 1) 0 (-1) := ⟨by rw [n1.1]; exact f0.1, by rw [n1.2]; exact f0.2⟩
                                                            obtain ⟨_, c2, h2, n2⟩ := (q7.1 b n _ h1).resolve_right (fun hh => by rcases hh with hh | hh <;> exact absurd hh.1 (by omega))
                                                            have v2 : (gi2 (ar0 + 1) 8).toInt = s_V b n _ := congrArg Int32.toInt (h1.2.2.2.2.2.2.1 c2.1)
                                                            have f2 : t_FL gi7 (ar0 + 1) 0 (-1) := ⟨by rw [n2.1]; exact f1.1, by rw [n2.2]; exact f1.2⟩
                                                            obtain ⟨_, c3, h3, n3⟩ := (q12.1 b n _ h2).resolve_right (fun hh => absurd hh.1 (by omega))
                                                            have f3 : t_FL gi12 (ar0 + 1) 0 (-1) := ⟨by rw [n3.1]; exact f2.1, by rw [n3.2]; exact f2.2⟩
                                                            obtain ⟨_, c4, h4, n4⟩ := (q17.1 b n _ h3).resolve_right (fun hh => by rcases hh with hh | hh <;> exact absurd hh.1 (by omega))
                                                            have v4 : (gi12 (ar0 + 1) 8).toInt = s_V b n _ := congrArg Int32.toInt (h3.2.2.2.2.2.2.1 c4.1)
                                                            have f4 : t_FL gi17 (ar0 + 1) 0 (-1) := ⟨by rw [n4.1]; exact f3.1, by rw [n4.2]; exact f3.2⟩
                                                            obtain ⟨_, c5, h5, n5⟩ := (q22.1 b n _ h4).resolve_right (fun hh => absurd hh.1 (by omega))
                                                            have f5 : t_FL gi22 (ar0 + 1) 0 (-1) := ⟨by rw [n5.1]; exact f4.1, by rw [n5.2]; exact f4.2⟩
                                                            obtain ⟨_, c6, h6, n6⟩ := (q27.1 b n _ h5).resolve_right (fun hh => by rcases hh with hh | hh <;> exact absurd hh.1 (by omega))
                                                            have v6 : (gi22 (ar0 + 1) 8).toInt = s_V b n _ := congrArg Int32.toInt (h5.2.2.2.2.2.2.1 c6.1)
                                                            have f6 : t_FL gi27 (ar0 + 1) 0 (-1) := ⟨by rw [n6.1]; exact f5.1, by rw [n6.2]; exact f5.2⟩
                                                            have hP := q32.2.1 (by omega)
                                                            obtain ⟨u2, u3, u4, u5, u0⟩ := t_put5 hP
                                                            have hw : ∀ K, K ≠ ar0 + 1 → gi27 K = gi K := fun K hK => by rw [(q27.2 K hK).1, (q22.2 K hK).1, (q17.2 K hK).1, (q12.2 K hK).1, (q7.2 K hK).1, (q2.2 K hK).1]
                                                            have ha : ∀ K, K ≠ ar1 → g34 K = gi32 K := fun K hK => by rw [e34, x_up2_ne hK]
                                                            have g2 : g34 2 = gi27 2 := by rw [ha _ (by omega), u0 _ (by omega)]
                                                            have g1 : g34 (ar0 + 1) = gi27 (ar0 + 1) := by rw [ha _ (by omega), u0 _ (by omega)]
                                                            exact Or.inl ⟨rfl, _, _, _, _, fun K => by simp only [s_come, s_num, s_kw, s_ifT c1, s_ifT c2.1, s_ifT c2, s_ifT c3, s_ifT c4.1, s_ifT c4, s_ifT c5, s_ifT c6.1, s_ifT c6], h6.eq g2 g1 (by rw [q32.2.2.1]) (by rw [q32.2.2.2]), by rw [t_FL, g1]; exact f6, (by rw [e34, x_up2_at]; exact (by omega)), t_ru_of (fun j => by rw [ha _ (by omega), u2 j, hw _ (by omega)]) v2, t_ru_of (fun j => by rw [ha _ (by omega), u3 j, hw _ (by omega)]) v4, t_ru_of (fun j => by rw [ha _ (by omega), u4 j, hw _ (by omega)]) v6, t_ru_of (fun j => by rw [ha _ (by omega), u5 j, hw _ (by omega)]) rfl⟩), (t_xc.I (t_xc.tr (t_xc.on (t_xc.on (t_xc.on (t_xc.on (t_xc.on (t_xc.on t_xc.rf q2.2 (by simp)) q7.2 (by simp)) q12.2 (by simp)) q17.2 (by simp)) q22.2 (by simp)) q27.2 (by simp)) (t_put_xc (q32.2.1 (by omega)) q32.2.2.1 q32.2.2.2) (by simp)) (by simp) e34)⟩)⟩⟩
